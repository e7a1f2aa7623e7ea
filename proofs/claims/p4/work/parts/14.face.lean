abbrev rmX7_areKindsOnce : Room := { frames := 0, cells := 0, slots := 0, locals := 0 }
set_option maxHeartbeats 4000000 in
set_option maxRecDepth 100000 in
theorem k_X7_areKindsOnce (l : Launch) (D : va_G) (cy : Nat → ClassId) (f : zM) (ta : Nat) (g : Nat → Int32) (p0 : f ta = some (.inl (cy 0, 4, .inl g)))   : zCi l D cy yX7_areKindsOnce cX7_areKindsOnce 6 (Option.some Jvm.ClassFile.FieldType.boolean) rmX7_areKindsOnce [.ref ta] f (fun (r : Int32) (f1 : zM) => r = (if (zks g 4).isSome = true then 1 else 0) ∧ (∀ (b : Nat) (e : va_E), f b = some e → f1 b = some e)) := by
  intro sz
  refine z_body (by decide +kernel) (Nat.le_of_ble_eq_true rfl) ?_
  intro p e s m below meth c ls C hr hin hsz hz hl
  subst hsz
  have hx := C.1
  have hb := C.2.1
  have hA : ∀ q, s.heap.size ≤ q → zA f s.heap.size q := fun q h => Or.inr h
  have hS : va_S (zA f s.heap.size) s.heap s.heap [] := va_S.rf
  have hl : lv_has ls 6 [(0, .ref ta)] := hl
  refine lv_iconst (v := 0) hx hb dX7_areKindsOnce_0 (by decide) ?_
  refine lv_istore_n (lv' := [(1, .int 0), (0, .ref ta)]) hx hb dX7_areKindsOnce_1 rfl hl (by decide) rfl (fun ls hl => ?_)
  refine lv_aload_n hx hb dX7_areKindsOnce_2 rfl (lv_at hl 1 rfl) ?_
  refine lv_astore_n (lv' := [(2, .ref ta), (1, .int 0), (0, .ref ta)]) hx hb dX7_areKindsOnce_3 rfl hl (by decide) rfl (fun ls hl => ?_)
  refine lv_aload_n hx hb dX7_areKindsOnce_4 rfl (lv_at hl 0 rfl) ?_
  refine z_alen (v := 4) 0 C hz p0 rfl rfl dX7_areKindsOnce_5 ?_
  refine lv_istore_n (lv' := [(3, .int 4), (2, .ref ta), (1, .int 0), (0, .ref ta)]) hx hb dX7_areKindsOnce_6 rfl hl (by decide) rfl (fun ls hl => ?_)
  refine lv_iconst (v := 0) hx hb dX7_areKindsOnce_7 (by decide) ?_
  refine lv_istore (lv' := [(4, .int 0), (3, .int 4), (2, .ref ta), (1, .int 0), (0, .ref ta)]) hx hb dX7_areKindsOnce_8 hl (by decide) rfl (fun ls hl => ?_)
  have lp1 : ∀ (n : Nat) (sn : Int32) (i : Nat) (fL2 : zM) (H : Heap) (locs : List Loc) (ls : Array Slot), (4 - i) < n → (i ≤ 4) → (zks g i = some sn) → fL2 ta = some (.inl (cy 0, 4, .inl g)) → (∀ (b : Nat) (e : va_E), f b = some e → fL2 b = some e) → zH D (zA f s.heap.size) fL2 H → va_S (zA f s.heap.size) s.heap H locs → lv_has ls 6 [(0, .ref ta), (1, .int sn), (2, .ref ta), (3, .int 4), (4, .int (nI i))] → W p l e rmX7_areKindsOnce s m ([.ref ta] : List Value).toArray below meth c H locs 0 0 (MQ below (va_Qi (fun (r : Int32) (f1 : zM) => r = (if (zks g 4).isSome = true then 1 else 0) ∧ (∀ (b : Nat) (e : va_E), f b = some e → f1 b = some e)) (zB D f s.heap.size) (zA f s.heap.size)) ([.ref ta] : List Value).toArray s rmX7_areKindsOnce.cells rmX7_areKindsOnce.slots (zA f s.heap.size)) (F0 m 10 ls []) := by
    intro n
    induction n with
    | zero => intro sn i fL2 H locs ls hmz; exact absurd hmz (Nat.not_lt_zero _)
    | succ n ih =>
      intro sn i fL2 H locs ls hmz hi hs a4 k3 hz hS hl
      refine lv_iload hx hb dX7_areKindsOnce_10 (lv_at hl 4 rfl) ?_
      refine lv_iload_n hx hb dX7_areKindsOnce_12 rfl (lv_at hl 3 rfl) ?_
      refine lv_icmp_ge (tgt := 67) hx hb dX7_areKindsOnce_13 (by decide) (fun c5 => ?_) (fun c5 => ?_)
      · replace c5 : (4 ≤ i) := (nI_leI (a := 4) (b := i) (by omega) (by omega)).mp c5
        refine lv_iconst (v := 1) hx hb dX7_areKindsOnce_67 (by decide) ?_
        exact z_iret C hr (by decide) hz hS ⟨(by rw [if_pos (by rw [show (4 : Nat) = i by omega, hs]; rfl)]), (by
              intro b e hb 
              have hb0 : fL2 b = some e := k3 b e hb 
              exact hb0)⟩ (Nat.le_of_ble_eq_true rfl) (Nat.le_of_ble_eq_true rfl) dX7_areKindsOnce_68
      · replace c5 : ¬ (4 ≤ i) := fun h => c5 ((nI_leI (a := 4) (b := i) (by omega) (by omega)).mpr h)
        refine lv_aload_n hx hb dX7_areKindsOnce_16 rfl (lv_at hl 2 rfl) ?_
        refine lv_iload hx hb dX7_areKindsOnce_17 (lv_at hl 4 rfl) ?_
        refine z_iald i C hz a4 rfl (by omega) (by omega) dX7_areKindsOnce_19 ?_
        refine lv_istore (lv' := [(5, .int (g i)), (0, .ref ta), (1, .int sn), (2, .ref ta), (3, .int 4), (4, .int (nI i))]) hx hb dX7_areKindsOnce_20 hl (by decide) rfl (fun ls hl => ?_)
        refine lv_iload hx hb dX7_areKindsOnce_22 (lv_at hl 0 rfl) ?_
        refine lv_iconst (v := (-1)) hx hb dX7_areKindsOnce_24 (by decide) ?_
        refine lv_icmp_ne (tgt := 31) hx hb dX7_areKindsOnce_25 (by decide) (fun c6 => ?_) (fun c6 => ?_)
        · refine lv_iload hx hb dX7_areKindsOnce_31 (lv_at hl 0 rfl) ?_
          refine lv_if_lt (tgt := 52) hx hb dX7_areKindsOnce_33 (by decide) (fun c7 => ?_) (fun c7 => ?_)
          · refine lv_iconst (v := 0) hx hb dX7_areKindsOnce_52 (by decide) ?_
            exact z_iret C hr (by decide) hz hS ⟨(by rw [if_neg (zks_none4 (i := i) (by omega) (by simp [zks, hs, c6, c7]))]), (by
                  intro b e hb 
                  have hb0 : fL2 b = some e := k3 b e hb 
                  exact hb0)⟩ (Nat.le_of_ble_eq_true rfl) (Nat.le_of_ble_eq_true rfl) dX7_areKindsOnce_53
          · refine lv_iload hx hb dX7_areKindsOnce_36 (lv_at hl 0 rfl) ?_
            refine lv_bipush (v := 6) hx hb dX7_areKindsOnce_38 (by decide) ?_
            refine lv_icmp_gt (tgt := 52) hx hb dX7_areKindsOnce_40 (by decide) (fun c8 => ?_) (fun c8 => ?_)
            · refine lv_iconst (v := 0) hx hb dX7_areKindsOnce_52 (by decide) ?_
              exact z_iret C hr (by decide) hz hS ⟨(by rw [if_neg (zks_none4 (i := i) (by omega) (by simp [zks, hs, c6, c7, c8]))]), (by
                    intro b e hb 
                    have hb0 : fL2 b = some e := k3 b e hb 
                    exact hb0)⟩ (Nat.le_of_ble_eq_true rfl) (Nat.le_of_ble_eq_true rfl) dX7_areKindsOnce_53
            · refine lv_iload_n hx hb dX7_areKindsOnce_43 rfl (lv_at hl 2 rfl) ?_
              refine lv_iload hx hb dX7_areKindsOnce_44 (lv_at hl 0 rfl) ?_
              refine lv_ishr hx hb dX7_areKindsOnce_46 ?_
              refine lv_iconst (v := 1) hx hb dX7_areKindsOnce_47 (by decide) ?_
              refine lv_iand hx hb dX7_areKindsOnce_48 ?_
              refine lv_if_eq (tgt := 54) hx hb dX7_areKindsOnce_49 (by decide) (fun c9 => ?_) (fun c9 => ?_)
              · refine lv_iload_n hx hb dX7_areKindsOnce_54 rfl (lv_at hl 2 rfl) ?_
                refine lv_iconst (v := 1) hx hb dX7_areKindsOnce_55 (by decide) ?_
                refine lv_iload hx hb dX7_areKindsOnce_56 (lv_at hl 0 rfl) ?_
                refine lv_ishl hx hb dX7_areKindsOnce_58 ?_
                refine lv_ior hx hb dX7_areKindsOnce_59 ?_
                refine lv_istore_n (lv' := [(1, .int (sn ||| (1 <<< ((g i) &&& 31)))), (5, .int (g i)), (0, .ref ta), (2, .ref ta), (3, .int 4), (4, .int (nI i))]) hx hb dX7_areKindsOnce_60 rfl hl (by decide) rfl (fun ls hl => ?_)
                refine lv_iinc (v := nI (i + 1)) (lv' := [(4, .int (nI (i + 1))), (1, .int (sn ||| (1 <<< ((g i) &&& 31)))), (5, .int (g i)), (0, .ref ta), (2, .ref ta), (3, .int 4)]) hx hb dX7_areKindsOnce_61 hl (k := 5) rfl (nI_1 i) (by decide) rfl (fun ls hl => ?_)
                refine lv_goto (tgt := 10) hx hb dX7_areKindsOnce_64 (by decide) ?_
                exact ih (sn ||| (1 <<< ((g i) &&& 31))) (i + 1) _ _ _ _ (by omega) (by omega) (by simp [zks, hs, c6, c7, c8, c9]) a4 (by
                      intro b e hb 
                      have hb0 : fL2 b = some e := k3 b e hb 
                      exact hb0) hz hS (lv_sub hl [3, 1, 4, 5, 0] rfl)
              · refine lv_iconst (v := 0) hx hb dX7_areKindsOnce_52 (by decide) ?_
                exact z_iret C hr (by decide) hz hS ⟨(by rw [if_neg (zks_none4 (i := i) (by omega) (by simp [zks, hs, c6, c7, c8, c9]))]), (by
                      intro b e hb 
                      have hb0 : fL2 b = some e := k3 b e hb 
                      exact hb0)⟩ (Nat.le_of_ble_eq_true rfl) (Nat.le_of_ble_eq_true rfl) dX7_areKindsOnce_53
        · refine lv_goto (tgt := 61) hx hb dX7_areKindsOnce_28 (by decide) ?_
          refine lv_iinc (v := nI (i + 1)) (lv' := [(4, .int (nI (i + 1))), (5, .int (g i)), (0, .ref ta), (1, .int sn), (2, .ref ta), (3, .int 4)]) hx hb dX7_areKindsOnce_61 hl (k := 5) rfl (nI_1 i) (by decide) rfl (fun ls hl => ?_)
          refine lv_goto (tgt := 10) hx hb dX7_areKindsOnce_64 (by decide) ?_
          exact ih sn (i + 1) _ _ _ _ (by omega) (by omega) (by simp [zks, hs, c6]) a4 (by
                intro b e hb 
                have hb0 : fL2 b = some e := k3 b e hb 
                exact hb0) hz hS (lv_sub hl [2, 3, 4, 5, 0] rfl)
  exact lp1 (4 - 0 + 1) 0 0 _ _ _ _ (Nat.lt_succ_self _) (by omega) rfl p0 (fun b e hb => hb) hz hS (lv_sub hl [4, 3, 2, 1, 0] rfl)
abbrev rmX7_family : Room := { frames := 2, cells := 3, slots := 10, locals := 34 }
set_option maxHeartbeats 4000000 in
set_option maxRecDepth 100000 in
theorem k_X7_family (l : Launch) (D : va_G) (cy : Nat → ClassId) (f : zM) (o : Nat) (fa : Nat) (fi : Nat) (nu : Nat) (fm : Nat) (co : Nat) (en : Nat) (ke : Nat) (ev : Nat) (al : Nat) (ra : Nat) (kn : Nat) (vq : Nat) (ge : Nat → Option Nat) (ea : Nat → Nat) (ma : Nat → Nat) (u1 : Int32) (u2 : Int32) (u3 : Int32) (gv : Nat → Int32) (nl : Nat) (gu : Nat → Int32) (nn : Nat) (ga : Nat → Option Nat) (gr : Nat → Option Nat) (fg : Nat → Nat) (pt : Nat → Nat) (kd : Nat → Int32) (ln : Nat → Nat) (pp : Nat → Nat → Int64) (wg : Nat → Int64) (wd : Nat → Int32) (hs : Nat → Int32) (bf : Nat → Int32) (nf : Nat) (gf : Nat → Option Nat) (fq : Nat → Nat) (fk : Nat → Nat) (fz : Nat → Nat) (fc : Nat → Nat → Int32) (nc : Nat) (gc : Nat → Option Nat) (cn : Nat → Nat) (ce : Nat → Int32) (cm : Nat → Int32) (sq : Nat → Nat) (mb : Nat → Nat → Int32) (ks : Nat) (kk : Nat → Int32) (kv : Nat → Int32) (lk : Int64) (x : Int32) (y : Int32) (z : Int32) (v : Int32)    (hI : zIX cy f o fa fi nu fm co en ke ev al ra kn vq ge ea ma u1 u2 u3 gv nl gu nn ga gr fg pt kd ln pp wg wd hs bf nf gf fq fk fz fc nc gc cn ce cm sq mb ks kk kv lk) : zCi l D cy yX7_family cX7_family 6 (Option.some Jvm.ClassFile.FieldType.int) rmX7_family [.ref o, .int x, .int y, .int z, .int v] f (fun (r : Int32) (f1 : zM) => ∃ (u11 : Int32) (u21 : Int32) (u31 : Int32) (gv1 : Nat → Int32) (nl1 : Nat) (gu1 : Nat → Int32) (nn1 : Nat) (ga1 : Nat → Option Nat) (gr1 : Nat → Option Nat) (fg1 : Nat → Nat) (pt1 : Nat → Nat) (kd1 : Nat → Int32) (ln1 : Nat → Nat) (pp1 : Nat → Nat → Int64) (wg1 : Nat → Int64) (wd1 : Nat → Int32) (hs1 : Nat → Int32) (bf1 : Nat → Int32) (nf1 : Nat) (gf1 : Nat → Option Nat) (fq1 : Nat → Nat) (fk1 : Nat → Nat) (fz1 : Nat → Nat) (fc1 : Nat → Nat → Int32) (nc1 : Nat) (gc1 : Nat → Option Nat) (cn1 : Nat → Nat) (ce1 : Nat → Int32) (cm1 : Nat → Int32) (sq1 : Nat → Nat) (mb1 : Nat → Nat → Int32) (ks1 : Nat) (kk1 : Nat → Int32) (kv1 : Nat → Int32) (lk1 : Int64), r = (if (zks (upd (upd (upd (upd (fun _ => 0) 0 x) 1 y) 2 z) 3 v) 4).isSome = true then (if nf < 6 then nI nf else (-3)) else (-2)) ∧ (nl1 = nl) ∧ (nn1 = nn) ∧ zIX cy f1 o fa fi nu fm co en ke ev al ra kn vq ge ea ma u11 u21 u31 gv1 nl1 gu1 nn1 ga1 gr1 fg1 pt1 kd1 ln1 pp1 wg1 wd1 hs1 bf1 nf1 gf1 fq1 fk1 fz1 fc1 nc1 gc1 cn1 ce1 cm1 sq1 mb1 ks1 kk1 kv1 lk1) := by
  intro sz
  refine z_body (by decide +kernel) (Nat.le_of_ble_eq_true rfl) ?_
  intro p e s m below meth c ls C hr hin hsz hz hl
  subst hsz
  have hx := C.1
  have hb := C.2.1
  have hA : ∀ q, s.heap.size ≤ q → zA f s.heap.size q := fun q h => Or.inr h
  have hS : va_S (zA f s.heap.size) s.heap s.heap [] := va_S.rf
  have hl : lv_has ls 6 [(0, .ref o), (1, .int x), (2, .int y), (3, .int z), (4, .int v)] := hl
  obtain ⟨x_o, x_fa, x_ev, x_fi, x_al, x_ra, x_nu, x_fm, x_co, x_en, x_ke, x_kn, x_vq, hF, hP, hFq, hFk, hCn, hEa, hMa, hn60, hl12, hf6, hc60, hs40, hga, hgr, hln, hk5, hk4, hfi, hpi, har, hgf, hfz, hgc, hG, hsq, hei, hmi, kne, hca, hcr, hlk⟩ := id hI
  by_cases hk : (zks (upd (upd (upd (upd (fun _ => 0) 0 x) 1 y) 2 z) 3 v) 4).isSome = true
  · refine lv_iconst (v := 4) hx hb dX7_family_0 (by decide) ?_
    refine z_newa (atype := .int) (t0 := 0) (N' := 4) (x := (.inl (fun _ => 0))) C hz hS hA rfl mA_int rfl (fun _ => rfl) (by decide) (Nat.le_of_ble_eq_true rfl) (by decide) (Nat.le_of_ble_eq_true rfl) (Nat.le_of_ble_eq_true rfl) dX7_family_1 (fun q1 H f3 uq2 a4 k5 hz hS => ?_)
    refine lv_dup hx hb dX7_family_3 rfl ?_
    refine lv_iconst (v := 0) hx hb dX7_family_4 (by decide) ?_
    refine lv_iload_n hx hb dX7_family_5 rfl (lv_at hl 1 rfl) ?_
    refine z_iast 0 C hz hS a4 (by decide) (Nat.le_of_ble_eq_true rfl) (by omega) dX7_family_6 (fun H locs f6 a7 k8 hz hS => ?_)
    refine lv_dup hx hb dX7_family_7 rfl ?_
    refine lv_iconst (v := 1) hx hb dX7_family_8 (by decide) ?_
    refine lv_iload_n hx hb dX7_family_9 rfl (lv_at hl 2 rfl) ?_
    refine z_iast 1 C hz hS a7 (by decide) (Nat.le_of_ble_eq_true rfl) (by omega) dX7_family_10 (fun H locs f9 a10 k11 hz hS => ?_)
    refine lv_dup hx hb dX7_family_11 rfl ?_
    refine lv_iconst (v := 2) hx hb dX7_family_12 (by decide) ?_
    refine lv_iload_n hx hb dX7_family_13 rfl (lv_at hl 3 rfl) ?_
    refine z_iast 2 C hz hS a10 (by decide) (Nat.le_of_ble_eq_true rfl) (by omega) dX7_family_14 (fun H locs f12 a13 k14 hz hS => ?_)
    refine lv_dup hx hb dX7_family_15 rfl ?_
    refine lv_iconst (v := 3) hx hb dX7_family_16 (by decide) ?_
    refine lv_iload hx hb dX7_family_17 (lv_at hl 4 rfl) ?_
    refine z_iast 3 C hz hS a13 (by decide) (Nat.le_of_ble_eq_true rfl) (by omega) dX7_family_19 (fun H locs f15 a16 k17 hz hS => ?_)
    refine lv_astore (lv' := [(5, .ref q1), (0, .ref o), (1, .int x), (2, .int y), (3, .int z), (4, .int v)]) hx hb dX7_family_20 hl (by decide) rfl (fun ls hl => ?_)
    refine lv_aload hx hb dX7_family_22 (lv_at hl 0 rfl) ?_
    refine z_callSi (As := [.ref q1]) C hz hS hA hl (k_X7_areKindsOnce l D cy f15 q1 (upd (upd (upd (upd (fun _ => 0) 0 x) 1 y) 2 z) 3 v) a16 ) zyX7_areKindsOnce mMX7_187 rfl rfl (Nat.le_of_ble_eq_true rfl) ⟨Nat.le_of_ble_eq_true rfl, Nat.le_of_ble_eq_true rfl⟩ ⟨Nat.le_of_ble_eq_true rfl, Nat.le_of_ble_eq_true rfl⟩ dX7_family_24 (fun r f18 H locs h19 hz hS => ?_)
    obtain ⟨rfl, k20⟩ := h19
    refine lv_topi (fun y21 e22 => ?_)
    obtain rfl : y21 = 1 := e22.trans (if_pos hk)
    refine lv_if_ne (tgt := 33) hx hb dX7_family_27 (by decide) (fun c23 => ?_) (fun c23 => ?_)
    rotate_left
    · exact absurd c23 (by decide)
    refine lv_aload_n hx hb dX7_family_33 rfl (lv_at hl 1 rfl) ?_
    have a24 : f3 o = some (.inr (7, [.ref fa, .ref fi, .ref nu, .int (nI nl), .ref fm, .int (nI nf), .ref co, .int (nI nc), .ref en, .ref ke, .long lk])) := (k5 _ (z_nn uq2 x_o)).trans x_o
    have a25 : f6 o = some (.inr (7, [.ref fa, .ref fi, .ref nu, .int (nI nl), .ref fm, .int (nI nf), .ref co, .int (nI nc), .ref en, .ref ke, .long lk])) := (k8 _ (z_nn uq2 x_o)).trans a24
    have a26 : f9 o = some (.inr (7, [.ref fa, .ref fi, .ref nu, .int (nI nl), .ref fm, .int (nI nf), .ref co, .int (nI nc), .ref en, .ref ke, .long lk])) := (k11 _ (z_nn uq2 x_o)).trans a25
    have a27 : f12 o = some (.inr (7, [.ref fa, .ref fi, .ref nu, .int (nI nl), .ref fm, .int (nI nf), .ref co, .int (nI nc), .ref en, .ref ke, .long lk])) := (k14 _ (z_nn uq2 x_o)).trans a26
    have a28 : f15 o = some (.inr (7, [.ref fa, .ref fi, .ref nu, .int (nI nl), .ref fm, .int (nI nf), .ref co, .int (nI nc), .ref en, .ref ke, .long lk])) := (k17 _ (z_nn uq2 x_o)).trans a27
    have a29 : f18 o = some (.inr (7, [.ref fa, .ref fi, .ref nu, .int (nI nl), .ref fm, .int (nI nf), .ref co, .int (nI nc), .ref en, .ref ke, .long lk])) := k20 _ _ a28 
    refine z_get (v := .int (nI nf)) C hz a29 zl7 mFX7_37 (by decide) rfl dX7_family_34 ?_
    refine lv_bipush (v := 6) hx hb dX7_family_37 (by decide) ?_
    refine lv_icmp_lt (tgt := 45) hx hb dX7_family_39 (by decide) (fun c30 => ?_) (fun c30 => ?_)
    · replace c30 : (nf < 6) := (nI_ltI (a := nf) (b := 6) (by omega) (by omega)).mp c30
      refine lv_aload_n hx hb dX7_family_45 rfl (lv_at hl 1 rfl) ?_
      refine z_get (v := .ref fm) C hz a29 zl7 mFX7_33 (by decide) rfl dX7_family_46 ?_
      refine lv_aload_n hx hb dX7_family_49 rfl (lv_at hl 1 rfl) ?_
      refine z_get (v := .int (nI nf)) C hz a29 zl7 mFX7_37 (by decide) rfl dX7_family_50 ?_
      refine z_new (fs := [.null, .int 0]) C hz hS hA zl3 mLX7_31 mIa_RX3 mIn_RX3 (by decide +kernel) (Nat.le_of_ble_eq_true rfl) (Nat.le_of_ble_eq_true rfl) dX7_family_53 (fun q31 H f33 uq32 a34 k35 hz hS => ?_)
      refine lv_dup hx hb dX7_family_56 rfl ?_
      refine lv_aload hx hb dX7_family_57 (lv_at hl 0 rfl) ?_
      have a36 : f18 q1 = some (.inl (cy 0, 4, .inl (upd (upd (upd (upd (fun _ => 0) 0 x) 1 y) 2 z) 3 v))) := k20 _ _ a16 
      have a37 : f33 q1 = some (.inl (cy 0, 4, .inl (upd (upd (upd (upd (fun _ => 0) 0 x) 1 y) 2 z) 3 v))) := (k35 _ (z_nn uq32 a36)).trans a36
      refine z_callIv (ret := none) (As := [.ref q1]) C hz hS hA hl (k_X3_init l D cy f33 q31 q1 (upd (upd (upd (upd (fun _ => 0) 0 x) 1 y) 2 z) 3 v) a34 a37 ) zyX3_init mMX7_191 rfl rfl (Nat.le_of_ble_eq_true rfl) ⟨Nat.le_of_ble_eq_true rfl, Nat.le_of_ble_eq_true rfl⟩ ⟨Nat.le_of_ble_eq_true rfl, Nat.le_of_ble_eq_true rfl⟩ dX7_family_59 (fun  f38 H locs h39 hz hS => ?_)
      obtain ⟨kq_40, zz_41, gz_42, p43, a44, a45, k46⟩ := h39
      have a47 : f3 fm = some (.inl (cy 4, 6, .inr (.inr (.inr (.inr gf))))) := (k5 _ (z_nn uq2 x_fm)).trans x_fm
      have a48 : f6 fm = some (.inl (cy 4, 6, .inr (.inr (.inr (.inr gf))))) := (k8 _ (z_nn uq2 x_fm)).trans a47
      have a49 : f9 fm = some (.inl (cy 4, 6, .inr (.inr (.inr (.inr gf))))) := (k11 _ (z_nn uq2 x_fm)).trans a48
      have a50 : f12 fm = some (.inl (cy 4, 6, .inr (.inr (.inr (.inr gf))))) := (k14 _ (z_nn uq2 x_fm)).trans a49
      have a51 : f15 fm = some (.inl (cy 4, 6, .inr (.inr (.inr (.inr gf))))) := (k17 _ (z_nn uq2 x_fm)).trans a50
      have a52 : f18 fm = some (.inl (cy 4, 6, .inr (.inr (.inr (.inr gf))))) := k20 _ _ a51 
      have a53 : f33 fm = some (.inl (cy 4, 6, .inr (.inr (.inr (.inr gf))))) := (k35 _ (z_nn uq32 a52)).trans a52
      have a54 : f38 fm = some (.inl (cy 4, 6, .inr (.inr (.inr (.inr gf))))) := k46 _ _ a53 (z_nn uq32 a52)
      refine z_astq nf C hz hS a54 rfl a44 zl3 rfl (by omega) (by omega) dX7_family_62 (fun H locs f55 a56 k57 hz hS => ?_)
      refine lv_aload_n hx hb dX7_family_63 rfl (lv_at hl 1 rfl) ?_
      refine lv_dup hx hb dX7_family_64 rfl ?_
      have a58 : f33 o = some (.inr (7, [.ref fa, .ref fi, .ref nu, .int (nI nl), .ref fm, .int (nI nf), .ref co, .int (nI nc), .ref en, .ref ke, .long lk])) := (k35 _ (z_nn uq32 a29)).trans a29
      have a59 : f38 o = some (.inr (7, [.ref fa, .ref fi, .ref nu, .int (nI nl), .ref fm, .int (nI nf), .ref co, .int (nI nc), .ref en, .ref ke, .long lk])) := k46 _ _ a58 (z_nn uq32 a29)
      have a60 : f55 o = some (.inr (7, [.ref fa, .ref fi, .ref nu, .int (nI nl), .ref fm, .int (nI nf), .ref co, .int (nI nc), .ref en, .ref ke, .long lk])) := (k57 _ (z_ne a59 a54 rfl)).trans a59
      refine z_get (v := .int (nI nf)) C hz a60 zl7 mFX7_37 (by decide) rfl dX7_family_65 ?_
      refine lv_iconst (v := 1) hx hb dX7_family_68 (by decide) ?_
      refine lv_iadd hx hb dX7_family_69 ?_
      refine lv_topi (fun y61 e62 => ?_)
      obtain rfl : y61 = nI (nf + 1) := e62.trans (nI_1 nf)
      refine z_put (fs' := [.ref fa, .ref fi, .ref nu, .int (nI nl), .ref fm, .int (nI (nf + 1)), .ref co, .int (nI nc), .ref en, .ref ke, .long lk]) C hz hS a60 zl7 mFX7_37 (by decide) rfl rfl rfl (Nat.le_of_ble_eq_true rfl) rfl dX7_family_70 (fun H locs f63 a64 k65 hz hS => ?_)
      refine lv_aload_n hx hb dX7_family_73 rfl (lv_at hl 1 rfl) ?_
      refine z_get (v := .int (nI (nf + 1))) C hz a64 zl7 mFX7_37 (by decide) rfl dX7_family_74 ?_
      refine lv_iconst (v := 1) hx hb dX7_family_77 (by decide) ?_
      refine lv_isub hx hb dX7_family_78 ?_
      refine lv_topi (fun y66 e67 => ?_)
      obtain rfl : y66 = nI nf := e67.trans (pk_sub (a := nf + 1) (b := 1) (by omega))
      have F68 : ∀ i9 : Nat, i9 < nf → f3 (fq i9) = some (.inr (3, [.ref (fk i9), .int (nI (fz i9))])) := fun i9 h9 => (k5 _ (z_nn uq2 (hFq i9 h9))).trans (hFq i9 h9)
      have F69 : ∀ i9 : Nat, i9 < nf → f6 (fq i9) = some (.inr (3, [.ref (fk i9), .int (nI (fz i9))])) := fun i9 h9 => (k8 _ (z_nn uq2 (hFq i9 h9))).trans (F68 i9 h9)
      have F70 : ∀ i9 : Nat, i9 < nf → f9 (fq i9) = some (.inr (3, [.ref (fk i9), .int (nI (fz i9))])) := fun i9 h9 => (k11 _ (z_nn uq2 (hFq i9 h9))).trans (F69 i9 h9)
      have F71 : ∀ i9 : Nat, i9 < nf → f12 (fq i9) = some (.inr (3, [.ref (fk i9), .int (nI (fz i9))])) := fun i9 h9 => (k14 _ (z_nn uq2 (hFq i9 h9))).trans (F70 i9 h9)
      have F72 : ∀ i9 : Nat, i9 < nf → f15 (fq i9) = some (.inr (3, [.ref (fk i9), .int (nI (fz i9))])) := fun i9 h9 => (k17 _ (z_nn uq2 (hFq i9 h9))).trans (F71 i9 h9)
      have F73 : ∀ i9 : Nat, i9 < nf → f18 (fq i9) = some (.inr (3, [.ref (fk i9), .int (nI (fz i9))])) := fun i9 h9 => k20 _ _ (F72 i9 h9) 
      have F74 : ∀ i9 : Nat, i9 < nf → f33 (fq i9) = some (.inr (3, [.ref (fk i9), .int (nI (fz i9))])) := fun i9 h9 => (k35 _ (z_nn uq32 (F73 i9 h9))).trans (F73 i9 h9)
      have F75 : ∀ i9 : Nat, i9 < nf → f38 (fq i9) = some (.inr (3, [.ref (fk i9), .int (nI (fz i9))])) := fun i9 h9 => k46 _ _ (F74 i9 h9) (z_nn uq32 (F73 i9 h9))
      have F76 : ∀ i9 : Nat, i9 < nf → f55 (fq i9) = some (.inr (3, [.ref (fk i9), .int (nI (fz i9))])) := fun i9 h9 => (k57 _ (z_ne (F75 i9 h9) a54 rfl)).trans (F75 i9 h9)
      have F77 : ∀ i9 : Nat, i9 < nf → f63 (fq i9) = some (.inr (3, [.ref (fk i9), .int (nI (fz i9))])) := fun i9 h9 => (k65 _ (z_ne (F76 i9 h9) a60 rfl)).trans (F76 i9 h9)
      have a78 : f55 q31 = some (.inr (3, [.ref kq_40, .int (nI zz_41)])) := (k57 _ (Ne.symm (z_nn uq32 a52))).trans a44
      have a79 : f63 q31 = some (.inr (3, [.ref kq_40, .int (nI zz_41)])) := (k65 _ (Ne.symm (z_nn uq32 a29))).trans a78
      have F80 : ∀ i9 : Nat, i9 < (nf + 1) → f63 ((va_up fq nf q31) i9) = some (.inr (3, [.ref (va_up fk nf kq_40 i9), .int (nI (va_up fz nf zz_41 i9))])) := z_famP (n := nf) (T := fun i9 => .inr (3, [.ref (fk i9), .int (nI (fz i9))])) (T' := fun i9 => .inr (3, [.ref (va_up fk nf kq_40 i9), .int (nI (va_up fz nf zz_41 i9))])) F77 (by simp only [va_up_self]; exact a79) (fun i9 h9 => va_up_ne _ _ (by omega)) (va_up_self _ _ _) (fun i9 h9 => by simp only [va_up_ne _ _ (show i9 ≠ nf by omega)])
      have F81 : ∀ i9 : Nat, i9 < nf → f3 (fk i9) = some (.inl (cy 0, 4, .inl (fc i9))) := fun i9 h9 => (k5 _ (z_nn uq2 (hFk i9 h9))).trans (hFk i9 h9)
      have F82 : ∀ i9 : Nat, i9 < nf → f6 (fk i9) = some (.inl (cy 0, 4, .inl (fc i9))) := fun i9 h9 => (k8 _ (z_nn uq2 (hFk i9 h9))).trans (F81 i9 h9)
      have F83 : ∀ i9 : Nat, i9 < nf → f9 (fk i9) = some (.inl (cy 0, 4, .inl (fc i9))) := fun i9 h9 => (k11 _ (z_nn uq2 (hFk i9 h9))).trans (F82 i9 h9)
      have F84 : ∀ i9 : Nat, i9 < nf → f12 (fk i9) = some (.inl (cy 0, 4, .inl (fc i9))) := fun i9 h9 => (k14 _ (z_nn uq2 (hFk i9 h9))).trans (F83 i9 h9)
      have F85 : ∀ i9 : Nat, i9 < nf → f15 (fk i9) = some (.inl (cy 0, 4, .inl (fc i9))) := fun i9 h9 => (k17 _ (z_nn uq2 (hFk i9 h9))).trans (F84 i9 h9)
      have F86 : ∀ i9 : Nat, i9 < nf → f18 (fk i9) = some (.inl (cy 0, 4, .inl (fc i9))) := fun i9 h9 => k20 _ _ (F85 i9 h9) 
      have F87 : ∀ i9 : Nat, i9 < nf → f33 (fk i9) = some (.inl (cy 0, 4, .inl (fc i9))) := fun i9 h9 => (k35 _ (z_nn uq32 (F86 i9 h9))).trans (F86 i9 h9)
      have F88 : ∀ i9 : Nat, i9 < nf → f38 (fk i9) = some (.inl (cy 0, 4, .inl (fc i9))) := fun i9 h9 => k46 _ _ (F87 i9 h9) (z_nn uq32 (F86 i9 h9))
      have F89 : ∀ i9 : Nat, i9 < nf → f55 (fk i9) = some (.inl (cy 0, 4, .inl (fc i9))) := fun i9 h9 => (k57 _ (z_ne (F88 i9 h9) a54 rfl)).trans (F88 i9 h9)
      have F90 : ∀ i9 : Nat, i9 < nf → f63 (fk i9) = some (.inl (cy 0, 4, .inl (fc i9))) := fun i9 h9 => (k65 _ (z_ne (F89 i9 h9) a60 rfl)).trans (F89 i9 h9)
      have a91 : f55 kq_40 = some (.inl (cy 0, 4, .inl gz_42)) := (k57 _ (z_ne a45 a54 rfl)).trans a45
      have a92 : f63 kq_40 = some (.inl (cy 0, 4, .inl gz_42)) := (k65 _ (z_ne a91 a60 rfl)).trans a91
      have F93 : ∀ i9 : Nat, i9 < (nf + 1) → f63 ((va_up fk nf kq_40) i9) = some (.inl (cy 0, 4, .inl (va_up fc nf gz_42 i9))) := z_famP (n := nf) (T := fun i9 => .inl (cy 0, 4, .inl (fc i9))) (T' := fun i9 => .inl (cy 0, 4, .inl (va_up fc nf gz_42 i9))) F90 (by simp only [va_up_self]; exact a92) (fun i9 h9 => va_up_ne _ _ (by omega)) (va_up_self _ _ _) (fun i9 h9 => by simp only [va_up_ne _ _ (show i9 ≠ nf by omega)])
      have a94 : f3 fa = some (.inr (2, [.int u1, .int u2, .int u3, .ref ev])) := (k5 _ (z_nn uq2 x_fa)).trans x_fa
      have a95 : f6 fa = some (.inr (2, [.int u1, .int u2, .int u3, .ref ev])) := (k8 _ (z_nn uq2 x_fa)).trans a94
      have a96 : f9 fa = some (.inr (2, [.int u1, .int u2, .int u3, .ref ev])) := (k11 _ (z_nn uq2 x_fa)).trans a95
      have a97 : f12 fa = some (.inr (2, [.int u1, .int u2, .int u3, .ref ev])) := (k14 _ (z_nn uq2 x_fa)).trans a96
      have a98 : f15 fa = some (.inr (2, [.int u1, .int u2, .int u3, .ref ev])) := (k17 _ (z_nn uq2 x_fa)).trans a97
      have a99 : f18 fa = some (.inr (2, [.int u1, .int u2, .int u3, .ref ev])) := k20 _ _ a98 
      have a100 : f33 fa = some (.inr (2, [.int u1, .int u2, .int u3, .ref ev])) := (k35 _ (z_nn uq32 a99)).trans a99
      have a101 : f38 fa = some (.inr (2, [.int u1, .int u2, .int u3, .ref ev])) := k46 _ _ a100 (z_nn uq32 a99)
      have a102 : f55 fa = some (.inr (2, [.int u1, .int u2, .int u3, .ref ev])) := (k57 _ (z_ne a101 a54 rfl)).trans a101
      have a103 : f63 fa = some (.inr (2, [.int u1, .int u2, .int u3, .ref ev])) := (k65 _ (z_ne a102 a60 rfl)).trans a102
      have a104 : f3 ev = some (.inl (cy 0, 8, .inl gv)) := (k5 _ (z_nn uq2 x_ev)).trans x_ev
      have a105 : f6 ev = some (.inl (cy 0, 8, .inl gv)) := (k8 _ (z_nn uq2 x_ev)).trans a104
      have a106 : f9 ev = some (.inl (cy 0, 8, .inl gv)) := (k11 _ (z_nn uq2 x_ev)).trans a105
      have a107 : f12 ev = some (.inl (cy 0, 8, .inl gv)) := (k14 _ (z_nn uq2 x_ev)).trans a106
      have a108 : f15 ev = some (.inl (cy 0, 8, .inl gv)) := (k17 _ (z_nn uq2 x_ev)).trans a107
      have a109 : f18 ev = some (.inl (cy 0, 8, .inl gv)) := k20 _ _ a108 
      have a110 : f33 ev = some (.inl (cy 0, 8, .inl gv)) := (k35 _ (z_nn uq32 a109)).trans a109
      have a111 : f38 ev = some (.inl (cy 0, 8, .inl gv)) := k46 _ _ a110 (z_nn uq32 a109)
      have a112 : f55 ev = some (.inl (cy 0, 8, .inl gv)) := (k57 _ (z_ne a111 a54 rfl)).trans a111
      have a113 : f63 ev = some (.inl (cy 0, 8, .inl gv)) := (k65 _ (z_ne a112 a60 rfl)).trans a112
      have a114 : f3 fi = some (.inr (5, [.ref al, .ref ra, .int (nI nn)])) := (k5 _ (z_nn uq2 x_fi)).trans x_fi
      have a115 : f6 fi = some (.inr (5, [.ref al, .ref ra, .int (nI nn)])) := (k8 _ (z_nn uq2 x_fi)).trans a114
      have a116 : f9 fi = some (.inr (5, [.ref al, .ref ra, .int (nI nn)])) := (k11 _ (z_nn uq2 x_fi)).trans a115
      have a117 : f12 fi = some (.inr (5, [.ref al, .ref ra, .int (nI nn)])) := (k14 _ (z_nn uq2 x_fi)).trans a116
      have a118 : f15 fi = some (.inr (5, [.ref al, .ref ra, .int (nI nn)])) := (k17 _ (z_nn uq2 x_fi)).trans a117
      have a119 : f18 fi = some (.inr (5, [.ref al, .ref ra, .int (nI nn)])) := k20 _ _ a118 
      have a120 : f33 fi = some (.inr (5, [.ref al, .ref ra, .int (nI nn)])) := (k35 _ (z_nn uq32 a119)).trans a119
      have a121 : f38 fi = some (.inr (5, [.ref al, .ref ra, .int (nI nn)])) := k46 _ _ a120 (z_nn uq32 a119)
      have a122 : f55 fi = some (.inr (5, [.ref al, .ref ra, .int (nI nn)])) := (k57 _ (z_ne a121 a54 rfl)).trans a121
      have a123 : f63 fi = some (.inr (5, [.ref al, .ref ra, .int (nI nn)])) := (k65 _ (z_ne a122 a60 rfl)).trans a122
      have a124 : f3 al = some (.inl (cy 3, 60, .inr (.inr (.inr (.inr ga))))) := (k5 _ (z_nn uq2 x_al)).trans x_al
      have a125 : f6 al = some (.inl (cy 3, 60, .inr (.inr (.inr (.inr ga))))) := (k8 _ (z_nn uq2 x_al)).trans a124
      have a126 : f9 al = some (.inl (cy 3, 60, .inr (.inr (.inr (.inr ga))))) := (k11 _ (z_nn uq2 x_al)).trans a125
      have a127 : f12 al = some (.inl (cy 3, 60, .inr (.inr (.inr (.inr ga))))) := (k14 _ (z_nn uq2 x_al)).trans a126
      have a128 : f15 al = some (.inl (cy 3, 60, .inr (.inr (.inr (.inr ga))))) := (k17 _ (z_nn uq2 x_al)).trans a127
      have a129 : f18 al = some (.inl (cy 3, 60, .inr (.inr (.inr (.inr ga))))) := k20 _ _ a128 
      have a130 : f33 al = some (.inl (cy 3, 60, .inr (.inr (.inr (.inr ga))))) := (k35 _ (z_nn uq32 a129)).trans a129
      have a131 : f38 al = some (.inl (cy 3, 60, .inr (.inr (.inr (.inr ga))))) := k46 _ _ a130 (z_nn uq32 a129)
      have a132 : f55 al = some (.inl (cy 3, 60, .inr (.inr (.inr (.inr ga))))) := (k57 _ (z_ne a131 a54 rfl)).trans a131
      have a133 : f63 al = some (.inl (cy 3, 60, .inr (.inr (.inr (.inr ga))))) := (k65 _ (z_ne a132 a60 rfl)).trans a132
      have a134 : f3 ra = some (.inl (cy 3, 60, .inr (.inr (.inr (.inr gr))))) := (k5 _ (z_nn uq2 x_ra)).trans x_ra
      have a135 : f6 ra = some (.inl (cy 3, 60, .inr (.inr (.inr (.inr gr))))) := (k8 _ (z_nn uq2 x_ra)).trans a134
      have a136 : f9 ra = some (.inl (cy 3, 60, .inr (.inr (.inr (.inr gr))))) := (k11 _ (z_nn uq2 x_ra)).trans a135
      have a137 : f12 ra = some (.inl (cy 3, 60, .inr (.inr (.inr (.inr gr))))) := (k14 _ (z_nn uq2 x_ra)).trans a136
      have a138 : f15 ra = some (.inl (cy 3, 60, .inr (.inr (.inr (.inr gr))))) := (k17 _ (z_nn uq2 x_ra)).trans a137
      have a139 : f18 ra = some (.inl (cy 3, 60, .inr (.inr (.inr (.inr gr))))) := k20 _ _ a138 
      have a140 : f33 ra = some (.inl (cy 3, 60, .inr (.inr (.inr (.inr gr))))) := (k35 _ (z_nn uq32 a139)).trans a139
      have a141 : f38 ra = some (.inl (cy 3, 60, .inr (.inr (.inr (.inr gr))))) := k46 _ _ a140 (z_nn uq32 a139)
      have a142 : f55 ra = some (.inl (cy 3, 60, .inr (.inr (.inr (.inr gr))))) := (k57 _ (z_ne a141 a54 rfl)).trans a141
      have a143 : f63 ra = some (.inl (cy 3, 60, .inr (.inr (.inr (.inr gr))))) := (k65 _ (z_ne a142 a60 rfl)).trans a142
      have a144 : f3 nu = some (.inl (cy 0, 12, .inl gu)) := (k5 _ (z_nn uq2 x_nu)).trans x_nu
      have a145 : f6 nu = some (.inl (cy 0, 12, .inl gu)) := (k8 _ (z_nn uq2 x_nu)).trans a144
      have a146 : f9 nu = some (.inl (cy 0, 12, .inl gu)) := (k11 _ (z_nn uq2 x_nu)).trans a145
      have a147 : f12 nu = some (.inl (cy 0, 12, .inl gu)) := (k14 _ (z_nn uq2 x_nu)).trans a146
      have a148 : f15 nu = some (.inl (cy 0, 12, .inl gu)) := (k17 _ (z_nn uq2 x_nu)).trans a147
      have a149 : f18 nu = some (.inl (cy 0, 12, .inl gu)) := k20 _ _ a148 
      have a150 : f33 nu = some (.inl (cy 0, 12, .inl gu)) := (k35 _ (z_nn uq32 a149)).trans a149
      have a151 : f38 nu = some (.inl (cy 0, 12, .inl gu)) := k46 _ _ a150 (z_nn uq32 a149)
      have a152 : f55 nu = some (.inl (cy 0, 12, .inl gu)) := (k57 _ (z_ne a151 a54 rfl)).trans a151
      have a153 : f63 nu = some (.inl (cy 0, 12, .inl gu)) := (k65 _ (z_ne a152 a60 rfl)).trans a152
      have a154 : f63 fm = some (.inl (cy 4, 6, .inr (.inr (.inr (.inr (va_up gf nf (some q31))))))) := (k65 _ (z_ne a56 a60 rfl)).trans a56
      have a155 : f3 co = some (.inl (cy 5, 60, .inr (.inr (.inr (.inr gc))))) := (k5 _ (z_nn uq2 x_co)).trans x_co
      have a156 : f6 co = some (.inl (cy 5, 60, .inr (.inr (.inr (.inr gc))))) := (k8 _ (z_nn uq2 x_co)).trans a155
      have a157 : f9 co = some (.inl (cy 5, 60, .inr (.inr (.inr (.inr gc))))) := (k11 _ (z_nn uq2 x_co)).trans a156
      have a158 : f12 co = some (.inl (cy 5, 60, .inr (.inr (.inr (.inr gc))))) := (k14 _ (z_nn uq2 x_co)).trans a157
      have a159 : f15 co = some (.inl (cy 5, 60, .inr (.inr (.inr (.inr gc))))) := (k17 _ (z_nn uq2 x_co)).trans a158
      have a160 : f18 co = some (.inl (cy 5, 60, .inr (.inr (.inr (.inr gc))))) := k20 _ _ a159 
      have a161 : f33 co = some (.inl (cy 5, 60, .inr (.inr (.inr (.inr gc))))) := (k35 _ (z_nn uq32 a160)).trans a160
      have a162 : f38 co = some (.inl (cy 5, 60, .inr (.inr (.inr (.inr gc))))) := k46 _ _ a161 (z_nn uq32 a160)
      have a163 : f55 co = some (.inl (cy 5, 60, .inr (.inr (.inr (.inr gc))))) := (k57 _ (z_ne a162 a54 rfl)).trans a162
      have a164 : f63 co = some (.inl (cy 5, 60, .inr (.inr (.inr (.inr gc))))) := (k65 _ (z_ne a163 a60 rfl)).trans a163
      have a165 : f3 en = some (.inl (cy 6, 4, .inr (.inr (.inr (.inr ge))))) := (k5 _ (z_nn uq2 x_en)).trans x_en
      have a166 : f6 en = some (.inl (cy 6, 4, .inr (.inr (.inr (.inr ge))))) := (k8 _ (z_nn uq2 x_en)).trans a165
      have a167 : f9 en = some (.inl (cy 6, 4, .inr (.inr (.inr (.inr ge))))) := (k11 _ (z_nn uq2 x_en)).trans a166
      have a168 : f12 en = some (.inl (cy 6, 4, .inr (.inr (.inr (.inr ge))))) := (k14 _ (z_nn uq2 x_en)).trans a167
      have a169 : f15 en = some (.inl (cy 6, 4, .inr (.inr (.inr (.inr ge))))) := (k17 _ (z_nn uq2 x_en)).trans a168
      have a170 : f18 en = some (.inl (cy 6, 4, .inr (.inr (.inr (.inr ge))))) := k20 _ _ a169 
      have a171 : f33 en = some (.inl (cy 6, 4, .inr (.inr (.inr (.inr ge))))) := (k35 _ (z_nn uq32 a170)).trans a170
      have a172 : f38 en = some (.inl (cy 6, 4, .inr (.inr (.inr (.inr ge))))) := k46 _ _ a171 (z_nn uq32 a170)
      have a173 : f55 en = some (.inl (cy 6, 4, .inr (.inr (.inr (.inr ge))))) := (k57 _ (z_ne a172 a54 rfl)).trans a172
      have a174 : f63 en = some (.inl (cy 6, 4, .inr (.inr (.inr (.inr ge))))) := (k65 _ (z_ne a173 a60 rfl)).trans a173
      have a175 : f3 ke = some (.inr (6, [.ref kn, .ref vq, .int (nI ks)])) := (k5 _ (z_nn uq2 x_ke)).trans x_ke
      have a176 : f6 ke = some (.inr (6, [.ref kn, .ref vq, .int (nI ks)])) := (k8 _ (z_nn uq2 x_ke)).trans a175
      have a177 : f9 ke = some (.inr (6, [.ref kn, .ref vq, .int (nI ks)])) := (k11 _ (z_nn uq2 x_ke)).trans a176
      have a178 : f12 ke = some (.inr (6, [.ref kn, .ref vq, .int (nI ks)])) := (k14 _ (z_nn uq2 x_ke)).trans a177
      have a179 : f15 ke = some (.inr (6, [.ref kn, .ref vq, .int (nI ks)])) := (k17 _ (z_nn uq2 x_ke)).trans a178
      have a180 : f18 ke = some (.inr (6, [.ref kn, .ref vq, .int (nI ks)])) := k20 _ _ a179 
      have a181 : f33 ke = some (.inr (6, [.ref kn, .ref vq, .int (nI ks)])) := (k35 _ (z_nn uq32 a180)).trans a180
      have a182 : f38 ke = some (.inr (6, [.ref kn, .ref vq, .int (nI ks)])) := k46 _ _ a181 (z_nn uq32 a180)
      have a183 : f55 ke = some (.inr (6, [.ref kn, .ref vq, .int (nI ks)])) := (k57 _ (z_ne a182 a54 rfl)).trans a182
      have a184 : f63 ke = some (.inr (6, [.ref kn, .ref vq, .int (nI ks)])) := (k65 _ (z_ne a183 a60 rfl)).trans a183
      have a185 : f3 kn = some (.inl (cy 0, 40, .inl kk)) := (k5 _ (z_nn uq2 x_kn)).trans x_kn
      have a186 : f6 kn = some (.inl (cy 0, 40, .inl kk)) := (k8 _ (z_nn uq2 x_kn)).trans a185
      have a187 : f9 kn = some (.inl (cy 0, 40, .inl kk)) := (k11 _ (z_nn uq2 x_kn)).trans a186
      have a188 : f12 kn = some (.inl (cy 0, 40, .inl kk)) := (k14 _ (z_nn uq2 x_kn)).trans a187
      have a189 : f15 kn = some (.inl (cy 0, 40, .inl kk)) := (k17 _ (z_nn uq2 x_kn)).trans a188
      have a190 : f18 kn = some (.inl (cy 0, 40, .inl kk)) := k20 _ _ a189 
      have a191 : f33 kn = some (.inl (cy 0, 40, .inl kk)) := (k35 _ (z_nn uq32 a190)).trans a190
      have a192 : f38 kn = some (.inl (cy 0, 40, .inl kk)) := k46 _ _ a191 (z_nn uq32 a190)
      have a193 : f55 kn = some (.inl (cy 0, 40, .inl kk)) := (k57 _ (z_ne a192 a54 rfl)).trans a192
      have a194 : f63 kn = some (.inl (cy 0, 40, .inl kk)) := (k65 _ (z_ne a193 a60 rfl)).trans a193
      have a195 : f3 vq = some (.inl (cy 0, 40, .inl kv)) := (k5 _ (z_nn uq2 x_vq)).trans x_vq
      have a196 : f6 vq = some (.inl (cy 0, 40, .inl kv)) := (k8 _ (z_nn uq2 x_vq)).trans a195
      have a197 : f9 vq = some (.inl (cy 0, 40, .inl kv)) := (k11 _ (z_nn uq2 x_vq)).trans a196
      have a198 : f12 vq = some (.inl (cy 0, 40, .inl kv)) := (k14 _ (z_nn uq2 x_vq)).trans a197
      have a199 : f15 vq = some (.inl (cy 0, 40, .inl kv)) := (k17 _ (z_nn uq2 x_vq)).trans a198
      have a200 : f18 vq = some (.inl (cy 0, 40, .inl kv)) := k20 _ _ a199 
      have a201 : f33 vq = some (.inl (cy 0, 40, .inl kv)) := (k35 _ (z_nn uq32 a200)).trans a200
      have a202 : f38 vq = some (.inl (cy 0, 40, .inl kv)) := k46 _ _ a201 (z_nn uq32 a200)
      have a203 : f55 vq = some (.inl (cy 0, 40, .inl kv)) := (k57 _ (z_ne a202 a54 rfl)).trans a202
      have a204 : f63 vq = some (.inl (cy 0, 40, .inl kv)) := (k65 _ (z_ne a203 a60 rfl)).trans a203
      have F205 : ∀ i9 : Nat, i9 < nn → f3 (fg i9) = some (.inr (4, [.int (kd i9), .ref (pt i9), .long (wg i9), .int (wd i9), .int (nI i9), .int (hs i9), .int (bf i9)])) := fun i9 h9 => (k5 _ (z_nn uq2 (hF i9 h9))).trans (hF i9 h9)
      have F206 : ∀ i9 : Nat, i9 < nn → f6 (fg i9) = some (.inr (4, [.int (kd i9), .ref (pt i9), .long (wg i9), .int (wd i9), .int (nI i9), .int (hs i9), .int (bf i9)])) := fun i9 h9 => (k8 _ (z_nn uq2 (hF i9 h9))).trans (F205 i9 h9)
      have F207 : ∀ i9 : Nat, i9 < nn → f9 (fg i9) = some (.inr (4, [.int (kd i9), .ref (pt i9), .long (wg i9), .int (wd i9), .int (nI i9), .int (hs i9), .int (bf i9)])) := fun i9 h9 => (k11 _ (z_nn uq2 (hF i9 h9))).trans (F206 i9 h9)
      have F208 : ∀ i9 : Nat, i9 < nn → f12 (fg i9) = some (.inr (4, [.int (kd i9), .ref (pt i9), .long (wg i9), .int (wd i9), .int (nI i9), .int (hs i9), .int (bf i9)])) := fun i9 h9 => (k14 _ (z_nn uq2 (hF i9 h9))).trans (F207 i9 h9)
      have F209 : ∀ i9 : Nat, i9 < nn → f15 (fg i9) = some (.inr (4, [.int (kd i9), .ref (pt i9), .long (wg i9), .int (wd i9), .int (nI i9), .int (hs i9), .int (bf i9)])) := fun i9 h9 => (k17 _ (z_nn uq2 (hF i9 h9))).trans (F208 i9 h9)
      have F210 : ∀ i9 : Nat, i9 < nn → f18 (fg i9) = some (.inr (4, [.int (kd i9), .ref (pt i9), .long (wg i9), .int (wd i9), .int (nI i9), .int (hs i9), .int (bf i9)])) := fun i9 h9 => k20 _ _ (F209 i9 h9) 
      have F211 : ∀ i9 : Nat, i9 < nn → f33 (fg i9) = some (.inr (4, [.int (kd i9), .ref (pt i9), .long (wg i9), .int (wd i9), .int (nI i9), .int (hs i9), .int (bf i9)])) := fun i9 h9 => (k35 _ (z_nn uq32 (F210 i9 h9))).trans (F210 i9 h9)
      have F212 : ∀ i9 : Nat, i9 < nn → f38 (fg i9) = some (.inr (4, [.int (kd i9), .ref (pt i9), .long (wg i9), .int (wd i9), .int (nI i9), .int (hs i9), .int (bf i9)])) := fun i9 h9 => k46 _ _ (F211 i9 h9) (z_nn uq32 (F210 i9 h9))
      have F213 : ∀ i9 : Nat, i9 < nn → f55 (fg i9) = some (.inr (4, [.int (kd i9), .ref (pt i9), .long (wg i9), .int (wd i9), .int (nI i9), .int (hs i9), .int (bf i9)])) := fun i9 h9 => (k57 _ (z_ne (F212 i9 h9) a54 rfl)).trans (F212 i9 h9)
      have F214 : ∀ i9 : Nat, i9 < nn → f63 (fg i9) = some (.inr (4, [.int (kd i9), .ref (pt i9), .long (wg i9), .int (wd i9), .int (nI i9), .int (hs i9), .int (bf i9)])) := fun i9 h9 => (k65 _ (z_ne (F213 i9 h9) a60 rfl)).trans (F213 i9 h9)
      have F215 : ∀ i9 : Nat, i9 < nn → f3 (pt i9) = some (.inl (cy 1, (ln i9), .inr (.inl (pp i9)))) := fun i9 h9 => (k5 _ (z_nn uq2 (hP i9 h9))).trans (hP i9 h9)
      have F216 : ∀ i9 : Nat, i9 < nn → f6 (pt i9) = some (.inl (cy 1, (ln i9), .inr (.inl (pp i9)))) := fun i9 h9 => (k8 _ (z_nn uq2 (hP i9 h9))).trans (F215 i9 h9)
      have F217 : ∀ i9 : Nat, i9 < nn → f9 (pt i9) = some (.inl (cy 1, (ln i9), .inr (.inl (pp i9)))) := fun i9 h9 => (k11 _ (z_nn uq2 (hP i9 h9))).trans (F216 i9 h9)
      have F218 : ∀ i9 : Nat, i9 < nn → f12 (pt i9) = some (.inl (cy 1, (ln i9), .inr (.inl (pp i9)))) := fun i9 h9 => (k14 _ (z_nn uq2 (hP i9 h9))).trans (F217 i9 h9)
      have F219 : ∀ i9 : Nat, i9 < nn → f15 (pt i9) = some (.inl (cy 1, (ln i9), .inr (.inl (pp i9)))) := fun i9 h9 => (k17 _ (z_nn uq2 (hP i9 h9))).trans (F218 i9 h9)
      have F220 : ∀ i9 : Nat, i9 < nn → f18 (pt i9) = some (.inl (cy 1, (ln i9), .inr (.inl (pp i9)))) := fun i9 h9 => k20 _ _ (F219 i9 h9) 
      have F221 : ∀ i9 : Nat, i9 < nn → f33 (pt i9) = some (.inl (cy 1, (ln i9), .inr (.inl (pp i9)))) := fun i9 h9 => (k35 _ (z_nn uq32 (F220 i9 h9))).trans (F220 i9 h9)
      have F222 : ∀ i9 : Nat, i9 < nn → f38 (pt i9) = some (.inl (cy 1, (ln i9), .inr (.inl (pp i9)))) := fun i9 h9 => k46 _ _ (F221 i9 h9) (z_nn uq32 (F220 i9 h9))
      have F223 : ∀ i9 : Nat, i9 < nn → f55 (pt i9) = some (.inl (cy 1, (ln i9), .inr (.inl (pp i9)))) := fun i9 h9 => (k57 _ (z_neA (F222 i9 h9) a54 rfl)).trans (F222 i9 h9)
      have F224 : ∀ i9 : Nat, i9 < nn → f63 (pt i9) = some (.inl (cy 1, (ln i9), .inr (.inl (pp i9)))) := fun i9 h9 => (k65 _ (z_neO (F223 i9 h9) a60 rfl)).trans (F223 i9 h9)
      have F225 : ∀ i9 : Nat, i9 < nc → f3 (cn i9) = some (.inr (0, [.int (ce i9), .int (cm i9)])) := fun i9 h9 => (k5 _ (z_nn uq2 (hCn i9 h9))).trans (hCn i9 h9)
      have F226 : ∀ i9 : Nat, i9 < nc → f6 (cn i9) = some (.inr (0, [.int (ce i9), .int (cm i9)])) := fun i9 h9 => (k8 _ (z_nn uq2 (hCn i9 h9))).trans (F225 i9 h9)
      have F227 : ∀ i9 : Nat, i9 < nc → f9 (cn i9) = some (.inr (0, [.int (ce i9), .int (cm i9)])) := fun i9 h9 => (k11 _ (z_nn uq2 (hCn i9 h9))).trans (F226 i9 h9)
      have F228 : ∀ i9 : Nat, i9 < nc → f12 (cn i9) = some (.inr (0, [.int (ce i9), .int (cm i9)])) := fun i9 h9 => (k14 _ (z_nn uq2 (hCn i9 h9))).trans (F227 i9 h9)
      have F229 : ∀ i9 : Nat, i9 < nc → f15 (cn i9) = some (.inr (0, [.int (ce i9), .int (cm i9)])) := fun i9 h9 => (k17 _ (z_nn uq2 (hCn i9 h9))).trans (F228 i9 h9)
      have F230 : ∀ i9 : Nat, i9 < nc → f18 (cn i9) = some (.inr (0, [.int (ce i9), .int (cm i9)])) := fun i9 h9 => k20 _ _ (F229 i9 h9) 
      have F231 : ∀ i9 : Nat, i9 < nc → f33 (cn i9) = some (.inr (0, [.int (ce i9), .int (cm i9)])) := fun i9 h9 => (k35 _ (z_nn uq32 (F230 i9 h9))).trans (F230 i9 h9)
      have F232 : ∀ i9 : Nat, i9 < nc → f38 (cn i9) = some (.inr (0, [.int (ce i9), .int (cm i9)])) := fun i9 h9 => k46 _ _ (F231 i9 h9) (z_nn uq32 (F230 i9 h9))
      have F233 : ∀ i9 : Nat, i9 < nc → f55 (cn i9) = some (.inr (0, [.int (ce i9), .int (cm i9)])) := fun i9 h9 => (k57 _ (z_ne (F232 i9 h9) a54 rfl)).trans (F232 i9 h9)
      have F234 : ∀ i9 : Nat, i9 < nc → f63 (cn i9) = some (.inr (0, [.int (ce i9), .int (cm i9)])) := fun i9 h9 => (k65 _ (z_ne (F233 i9 h9) a60 rfl)).trans (F233 i9 h9)
      have F235 : ∀ i9 : Nat, i9 < 4 → f3 (ea i9) = some (.inr (1, [.ref (ma i9), .int (nI (sq i9))])) := fun i9 h9 => (k5 _ (z_nn uq2 (hEa i9 h9))).trans (hEa i9 h9)
      have F236 : ∀ i9 : Nat, i9 < 4 → f6 (ea i9) = some (.inr (1, [.ref (ma i9), .int (nI (sq i9))])) := fun i9 h9 => (k8 _ (z_nn uq2 (hEa i9 h9))).trans (F235 i9 h9)
      have F237 : ∀ i9 : Nat, i9 < 4 → f9 (ea i9) = some (.inr (1, [.ref (ma i9), .int (nI (sq i9))])) := fun i9 h9 => (k11 _ (z_nn uq2 (hEa i9 h9))).trans (F236 i9 h9)
      have F238 : ∀ i9 : Nat, i9 < 4 → f12 (ea i9) = some (.inr (1, [.ref (ma i9), .int (nI (sq i9))])) := fun i9 h9 => (k14 _ (z_nn uq2 (hEa i9 h9))).trans (F237 i9 h9)
      have F239 : ∀ i9 : Nat, i9 < 4 → f15 (ea i9) = some (.inr (1, [.ref (ma i9), .int (nI (sq i9))])) := fun i9 h9 => (k17 _ (z_nn uq2 (hEa i9 h9))).trans (F238 i9 h9)
      have F240 : ∀ i9 : Nat, i9 < 4 → f18 (ea i9) = some (.inr (1, [.ref (ma i9), .int (nI (sq i9))])) := fun i9 h9 => k20 _ _ (F239 i9 h9) 
      have F241 : ∀ i9 : Nat, i9 < 4 → f33 (ea i9) = some (.inr (1, [.ref (ma i9), .int (nI (sq i9))])) := fun i9 h9 => (k35 _ (z_nn uq32 (F240 i9 h9))).trans (F240 i9 h9)
      have F242 : ∀ i9 : Nat, i9 < 4 → f38 (ea i9) = some (.inr (1, [.ref (ma i9), .int (nI (sq i9))])) := fun i9 h9 => k46 _ _ (F241 i9 h9) (z_nn uq32 (F240 i9 h9))
      have F243 : ∀ i9 : Nat, i9 < 4 → f55 (ea i9) = some (.inr (1, [.ref (ma i9), .int (nI (sq i9))])) := fun i9 h9 => (k57 _ (z_ne (F242 i9 h9) a54 rfl)).trans (F242 i9 h9)
      have F244 : ∀ i9 : Nat, i9 < 4 → f63 (ea i9) = some (.inr (1, [.ref (ma i9), .int (nI (sq i9))])) := fun i9 h9 => (k65 _ (z_ne (F243 i9 h9) a60 rfl)).trans (F243 i9 h9)
      have F245 : ∀ i9 : Nat, i9 < 4 → f3 (ma i9) = some (.inl (cy 0, 60, .inl (mb i9))) := fun i9 h9 => (k5 _ (z_nn uq2 (hMa i9 h9))).trans (hMa i9 h9)
      have F246 : ∀ i9 : Nat, i9 < 4 → f6 (ma i9) = some (.inl (cy 0, 60, .inl (mb i9))) := fun i9 h9 => (k8 _ (z_nn uq2 (hMa i9 h9))).trans (F245 i9 h9)
      have F247 : ∀ i9 : Nat, i9 < 4 → f9 (ma i9) = some (.inl (cy 0, 60, .inl (mb i9))) := fun i9 h9 => (k11 _ (z_nn uq2 (hMa i9 h9))).trans (F246 i9 h9)
      have F248 : ∀ i9 : Nat, i9 < 4 → f12 (ma i9) = some (.inl (cy 0, 60, .inl (mb i9))) := fun i9 h9 => (k14 _ (z_nn uq2 (hMa i9 h9))).trans (F247 i9 h9)
      have F249 : ∀ i9 : Nat, i9 < 4 → f15 (ma i9) = some (.inl (cy 0, 60, .inl (mb i9))) := fun i9 h9 => (k17 _ (z_nn uq2 (hMa i9 h9))).trans (F248 i9 h9)
      have F250 : ∀ i9 : Nat, i9 < 4 → f18 (ma i9) = some (.inl (cy 0, 60, .inl (mb i9))) := fun i9 h9 => k20 _ _ (F249 i9 h9) 
      have F251 : ∀ i9 : Nat, i9 < 4 → f33 (ma i9) = some (.inl (cy 0, 60, .inl (mb i9))) := fun i9 h9 => (k35 _ (z_nn uq32 (F250 i9 h9))).trans (F250 i9 h9)
      have F252 : ∀ i9 : Nat, i9 < 4 → f38 (ma i9) = some (.inl (cy 0, 60, .inl (mb i9))) := fun i9 h9 => k46 _ _ (F251 i9 h9) (z_nn uq32 (F250 i9 h9))
      have F253 : ∀ i9 : Nat, i9 < 4 → f55 (ma i9) = some (.inl (cy 0, 60, .inl (mb i9))) := fun i9 h9 => (k57 _ (z_ne (F252 i9 h9) a54 rfl)).trans (F252 i9 h9)
      have F254 : ∀ i9 : Nat, i9 < 4 → f63 (ma i9) = some (.inl (cy 0, 60, .inl (mb i9))) := fun i9 h9 => (k65 _ (z_ne (F253 i9 h9) a60 rfl)).trans (F253 i9 h9)
      exact z_iret C hr rfl hz hS ⟨u1, u2, u3, gv, nl, gu, nn, ga, gr, fg, pt, kd, ln, pp, wg, wd, hs, bf, (nf + 1), (va_up gf nf (some q31)), (va_up fq nf q31), (va_up fk nf kq_40), (va_up fz nf zz_41), (va_up fc nf gz_42), nc, gc, cn, ce, cm, sq, mb, ks, kk, kv, lk, (by rw [if_pos hk, if_pos c30]), rfl, rfl, ⟨a64, a103, a113, a123, a133, a143, a153, a154, a164, a174, a184, a194, a204, F214, F224, F80, F93, F234, F244, F254, hn60, hl12, (by omega), hc60, hs40, hga, hgr, hln, hk5, hk4, hfi, hpi, har, (z_ga1 hgf), (z_up1 (P := fun _ a9 => a9 ≤ 4) hfz p43), hgc, hG, hsq, hei, hmi, kne, hca, hcr, hlk⟩⟩ (Nat.le_of_ble_eq_true rfl) (Nat.le_of_ble_eq_true rfl) dX7_family_79
    · replace c30 : ¬ (nf < 6) := fun h => c30 ((nI_ltI (a := nf) (b := 6) (by omega) (by omega)).mpr h)
      refine lv_bipush (v := (-3)) hx hb dX7_family_42 (by decide) ?_
      have a255 : f3 fa = some (.inr (2, [.int u1, .int u2, .int u3, .ref ev])) := (k5 _ (z_nn uq2 x_fa)).trans x_fa
      have a256 : f6 fa = some (.inr (2, [.int u1, .int u2, .int u3, .ref ev])) := (k8 _ (z_nn uq2 x_fa)).trans a255
      have a257 : f9 fa = some (.inr (2, [.int u1, .int u2, .int u3, .ref ev])) := (k11 _ (z_nn uq2 x_fa)).trans a256
      have a258 : f12 fa = some (.inr (2, [.int u1, .int u2, .int u3, .ref ev])) := (k14 _ (z_nn uq2 x_fa)).trans a257
      have a259 : f15 fa = some (.inr (2, [.int u1, .int u2, .int u3, .ref ev])) := (k17 _ (z_nn uq2 x_fa)).trans a258
      have a260 : f18 fa = some (.inr (2, [.int u1, .int u2, .int u3, .ref ev])) := k20 _ _ a259 
      have a261 : f3 ev = some (.inl (cy 0, 8, .inl gv)) := (k5 _ (z_nn uq2 x_ev)).trans x_ev
      have a262 : f6 ev = some (.inl (cy 0, 8, .inl gv)) := (k8 _ (z_nn uq2 x_ev)).trans a261
      have a263 : f9 ev = some (.inl (cy 0, 8, .inl gv)) := (k11 _ (z_nn uq2 x_ev)).trans a262
      have a264 : f12 ev = some (.inl (cy 0, 8, .inl gv)) := (k14 _ (z_nn uq2 x_ev)).trans a263
      have a265 : f15 ev = some (.inl (cy 0, 8, .inl gv)) := (k17 _ (z_nn uq2 x_ev)).trans a264
      have a266 : f18 ev = some (.inl (cy 0, 8, .inl gv)) := k20 _ _ a265 
      have a267 : f3 fi = some (.inr (5, [.ref al, .ref ra, .int (nI nn)])) := (k5 _ (z_nn uq2 x_fi)).trans x_fi
      have a268 : f6 fi = some (.inr (5, [.ref al, .ref ra, .int (nI nn)])) := (k8 _ (z_nn uq2 x_fi)).trans a267
      have a269 : f9 fi = some (.inr (5, [.ref al, .ref ra, .int (nI nn)])) := (k11 _ (z_nn uq2 x_fi)).trans a268
      have a270 : f12 fi = some (.inr (5, [.ref al, .ref ra, .int (nI nn)])) := (k14 _ (z_nn uq2 x_fi)).trans a269
      have a271 : f15 fi = some (.inr (5, [.ref al, .ref ra, .int (nI nn)])) := (k17 _ (z_nn uq2 x_fi)).trans a270
      have a272 : f18 fi = some (.inr (5, [.ref al, .ref ra, .int (nI nn)])) := k20 _ _ a271 
      have a273 : f3 al = some (.inl (cy 3, 60, .inr (.inr (.inr (.inr ga))))) := (k5 _ (z_nn uq2 x_al)).trans x_al
      have a274 : f6 al = some (.inl (cy 3, 60, .inr (.inr (.inr (.inr ga))))) := (k8 _ (z_nn uq2 x_al)).trans a273
      have a275 : f9 al = some (.inl (cy 3, 60, .inr (.inr (.inr (.inr ga))))) := (k11 _ (z_nn uq2 x_al)).trans a274
      have a276 : f12 al = some (.inl (cy 3, 60, .inr (.inr (.inr (.inr ga))))) := (k14 _ (z_nn uq2 x_al)).trans a275
      have a277 : f15 al = some (.inl (cy 3, 60, .inr (.inr (.inr (.inr ga))))) := (k17 _ (z_nn uq2 x_al)).trans a276
      have a278 : f18 al = some (.inl (cy 3, 60, .inr (.inr (.inr (.inr ga))))) := k20 _ _ a277 
      have a279 : f3 ra = some (.inl (cy 3, 60, .inr (.inr (.inr (.inr gr))))) := (k5 _ (z_nn uq2 x_ra)).trans x_ra
      have a280 : f6 ra = some (.inl (cy 3, 60, .inr (.inr (.inr (.inr gr))))) := (k8 _ (z_nn uq2 x_ra)).trans a279
      have a281 : f9 ra = some (.inl (cy 3, 60, .inr (.inr (.inr (.inr gr))))) := (k11 _ (z_nn uq2 x_ra)).trans a280
      have a282 : f12 ra = some (.inl (cy 3, 60, .inr (.inr (.inr (.inr gr))))) := (k14 _ (z_nn uq2 x_ra)).trans a281
      have a283 : f15 ra = some (.inl (cy 3, 60, .inr (.inr (.inr (.inr gr))))) := (k17 _ (z_nn uq2 x_ra)).trans a282
      have a284 : f18 ra = some (.inl (cy 3, 60, .inr (.inr (.inr (.inr gr))))) := k20 _ _ a283 
      have a285 : f3 nu = some (.inl (cy 0, 12, .inl gu)) := (k5 _ (z_nn uq2 x_nu)).trans x_nu
      have a286 : f6 nu = some (.inl (cy 0, 12, .inl gu)) := (k8 _ (z_nn uq2 x_nu)).trans a285
      have a287 : f9 nu = some (.inl (cy 0, 12, .inl gu)) := (k11 _ (z_nn uq2 x_nu)).trans a286
      have a288 : f12 nu = some (.inl (cy 0, 12, .inl gu)) := (k14 _ (z_nn uq2 x_nu)).trans a287
      have a289 : f15 nu = some (.inl (cy 0, 12, .inl gu)) := (k17 _ (z_nn uq2 x_nu)).trans a288
      have a290 : f18 nu = some (.inl (cy 0, 12, .inl gu)) := k20 _ _ a289 
      have a291 : f3 fm = some (.inl (cy 4, 6, .inr (.inr (.inr (.inr gf))))) := (k5 _ (z_nn uq2 x_fm)).trans x_fm
      have a292 : f6 fm = some (.inl (cy 4, 6, .inr (.inr (.inr (.inr gf))))) := (k8 _ (z_nn uq2 x_fm)).trans a291
      have a293 : f9 fm = some (.inl (cy 4, 6, .inr (.inr (.inr (.inr gf))))) := (k11 _ (z_nn uq2 x_fm)).trans a292
      have a294 : f12 fm = some (.inl (cy 4, 6, .inr (.inr (.inr (.inr gf))))) := (k14 _ (z_nn uq2 x_fm)).trans a293
      have a295 : f15 fm = some (.inl (cy 4, 6, .inr (.inr (.inr (.inr gf))))) := (k17 _ (z_nn uq2 x_fm)).trans a294
      have a296 : f18 fm = some (.inl (cy 4, 6, .inr (.inr (.inr (.inr gf))))) := k20 _ _ a295 
      have a297 : f3 co = some (.inl (cy 5, 60, .inr (.inr (.inr (.inr gc))))) := (k5 _ (z_nn uq2 x_co)).trans x_co
      have a298 : f6 co = some (.inl (cy 5, 60, .inr (.inr (.inr (.inr gc))))) := (k8 _ (z_nn uq2 x_co)).trans a297
      have a299 : f9 co = some (.inl (cy 5, 60, .inr (.inr (.inr (.inr gc))))) := (k11 _ (z_nn uq2 x_co)).trans a298
      have a300 : f12 co = some (.inl (cy 5, 60, .inr (.inr (.inr (.inr gc))))) := (k14 _ (z_nn uq2 x_co)).trans a299
      have a301 : f15 co = some (.inl (cy 5, 60, .inr (.inr (.inr (.inr gc))))) := (k17 _ (z_nn uq2 x_co)).trans a300
      have a302 : f18 co = some (.inl (cy 5, 60, .inr (.inr (.inr (.inr gc))))) := k20 _ _ a301 
      have a303 : f3 en = some (.inl (cy 6, 4, .inr (.inr (.inr (.inr ge))))) := (k5 _ (z_nn uq2 x_en)).trans x_en
      have a304 : f6 en = some (.inl (cy 6, 4, .inr (.inr (.inr (.inr ge))))) := (k8 _ (z_nn uq2 x_en)).trans a303
      have a305 : f9 en = some (.inl (cy 6, 4, .inr (.inr (.inr (.inr ge))))) := (k11 _ (z_nn uq2 x_en)).trans a304
      have a306 : f12 en = some (.inl (cy 6, 4, .inr (.inr (.inr (.inr ge))))) := (k14 _ (z_nn uq2 x_en)).trans a305
      have a307 : f15 en = some (.inl (cy 6, 4, .inr (.inr (.inr (.inr ge))))) := (k17 _ (z_nn uq2 x_en)).trans a306
      have a308 : f18 en = some (.inl (cy 6, 4, .inr (.inr (.inr (.inr ge))))) := k20 _ _ a307 
      have a309 : f3 ke = some (.inr (6, [.ref kn, .ref vq, .int (nI ks)])) := (k5 _ (z_nn uq2 x_ke)).trans x_ke
      have a310 : f6 ke = some (.inr (6, [.ref kn, .ref vq, .int (nI ks)])) := (k8 _ (z_nn uq2 x_ke)).trans a309
      have a311 : f9 ke = some (.inr (6, [.ref kn, .ref vq, .int (nI ks)])) := (k11 _ (z_nn uq2 x_ke)).trans a310
      have a312 : f12 ke = some (.inr (6, [.ref kn, .ref vq, .int (nI ks)])) := (k14 _ (z_nn uq2 x_ke)).trans a311
      have a313 : f15 ke = some (.inr (6, [.ref kn, .ref vq, .int (nI ks)])) := (k17 _ (z_nn uq2 x_ke)).trans a312
      have a314 : f18 ke = some (.inr (6, [.ref kn, .ref vq, .int (nI ks)])) := k20 _ _ a313 
      have a315 : f3 kn = some (.inl (cy 0, 40, .inl kk)) := (k5 _ (z_nn uq2 x_kn)).trans x_kn
      have a316 : f6 kn = some (.inl (cy 0, 40, .inl kk)) := (k8 _ (z_nn uq2 x_kn)).trans a315
      have a317 : f9 kn = some (.inl (cy 0, 40, .inl kk)) := (k11 _ (z_nn uq2 x_kn)).trans a316
      have a318 : f12 kn = some (.inl (cy 0, 40, .inl kk)) := (k14 _ (z_nn uq2 x_kn)).trans a317
      have a319 : f15 kn = some (.inl (cy 0, 40, .inl kk)) := (k17 _ (z_nn uq2 x_kn)).trans a318
      have a320 : f18 kn = some (.inl (cy 0, 40, .inl kk)) := k20 _ _ a319 
      have a321 : f3 vq = some (.inl (cy 0, 40, .inl kv)) := (k5 _ (z_nn uq2 x_vq)).trans x_vq
      have a322 : f6 vq = some (.inl (cy 0, 40, .inl kv)) := (k8 _ (z_nn uq2 x_vq)).trans a321
      have a323 : f9 vq = some (.inl (cy 0, 40, .inl kv)) := (k11 _ (z_nn uq2 x_vq)).trans a322
      have a324 : f12 vq = some (.inl (cy 0, 40, .inl kv)) := (k14 _ (z_nn uq2 x_vq)).trans a323
      have a325 : f15 vq = some (.inl (cy 0, 40, .inl kv)) := (k17 _ (z_nn uq2 x_vq)).trans a324
      have a326 : f18 vq = some (.inl (cy 0, 40, .inl kv)) := k20 _ _ a325 
      have F327 : ∀ i9 : Nat, i9 < nn → f3 (fg i9) = some (.inr (4, [.int (kd i9), .ref (pt i9), .long (wg i9), .int (wd i9), .int (nI i9), .int (hs i9), .int (bf i9)])) := fun i9 h9 => (k5 _ (z_nn uq2 (hF i9 h9))).trans (hF i9 h9)
      have F328 : ∀ i9 : Nat, i9 < nn → f6 (fg i9) = some (.inr (4, [.int (kd i9), .ref (pt i9), .long (wg i9), .int (wd i9), .int (nI i9), .int (hs i9), .int (bf i9)])) := fun i9 h9 => (k8 _ (z_nn uq2 (hF i9 h9))).trans (F327 i9 h9)
      have F329 : ∀ i9 : Nat, i9 < nn → f9 (fg i9) = some (.inr (4, [.int (kd i9), .ref (pt i9), .long (wg i9), .int (wd i9), .int (nI i9), .int (hs i9), .int (bf i9)])) := fun i9 h9 => (k11 _ (z_nn uq2 (hF i9 h9))).trans (F328 i9 h9)
      have F330 : ∀ i9 : Nat, i9 < nn → f12 (fg i9) = some (.inr (4, [.int (kd i9), .ref (pt i9), .long (wg i9), .int (wd i9), .int (nI i9), .int (hs i9), .int (bf i9)])) := fun i9 h9 => (k14 _ (z_nn uq2 (hF i9 h9))).trans (F329 i9 h9)
      have F331 : ∀ i9 : Nat, i9 < nn → f15 (fg i9) = some (.inr (4, [.int (kd i9), .ref (pt i9), .long (wg i9), .int (wd i9), .int (nI i9), .int (hs i9), .int (bf i9)])) := fun i9 h9 => (k17 _ (z_nn uq2 (hF i9 h9))).trans (F330 i9 h9)
      have F332 : ∀ i9 : Nat, i9 < nn → f18 (fg i9) = some (.inr (4, [.int (kd i9), .ref (pt i9), .long (wg i9), .int (wd i9), .int (nI i9), .int (hs i9), .int (bf i9)])) := fun i9 h9 => k20 _ _ (F331 i9 h9) 
      have F333 : ∀ i9 : Nat, i9 < nn → f3 (pt i9) = some (.inl (cy 1, (ln i9), .inr (.inl (pp i9)))) := fun i9 h9 => (k5 _ (z_nn uq2 (hP i9 h9))).trans (hP i9 h9)
      have F334 : ∀ i9 : Nat, i9 < nn → f6 (pt i9) = some (.inl (cy 1, (ln i9), .inr (.inl (pp i9)))) := fun i9 h9 => (k8 _ (z_nn uq2 (hP i9 h9))).trans (F333 i9 h9)
      have F335 : ∀ i9 : Nat, i9 < nn → f9 (pt i9) = some (.inl (cy 1, (ln i9), .inr (.inl (pp i9)))) := fun i9 h9 => (k11 _ (z_nn uq2 (hP i9 h9))).trans (F334 i9 h9)
      have F336 : ∀ i9 : Nat, i9 < nn → f12 (pt i9) = some (.inl (cy 1, (ln i9), .inr (.inl (pp i9)))) := fun i9 h9 => (k14 _ (z_nn uq2 (hP i9 h9))).trans (F335 i9 h9)
      have F337 : ∀ i9 : Nat, i9 < nn → f15 (pt i9) = some (.inl (cy 1, (ln i9), .inr (.inl (pp i9)))) := fun i9 h9 => (k17 _ (z_nn uq2 (hP i9 h9))).trans (F336 i9 h9)
      have F338 : ∀ i9 : Nat, i9 < nn → f18 (pt i9) = some (.inl (cy 1, (ln i9), .inr (.inl (pp i9)))) := fun i9 h9 => k20 _ _ (F337 i9 h9) 
      have F339 : ∀ i9 : Nat, i9 < nf → f3 (fq i9) = some (.inr (3, [.ref (fk i9), .int (nI (fz i9))])) := fun i9 h9 => (k5 _ (z_nn uq2 (hFq i9 h9))).trans (hFq i9 h9)
      have F340 : ∀ i9 : Nat, i9 < nf → f6 (fq i9) = some (.inr (3, [.ref (fk i9), .int (nI (fz i9))])) := fun i9 h9 => (k8 _ (z_nn uq2 (hFq i9 h9))).trans (F339 i9 h9)
      have F341 : ∀ i9 : Nat, i9 < nf → f9 (fq i9) = some (.inr (3, [.ref (fk i9), .int (nI (fz i9))])) := fun i9 h9 => (k11 _ (z_nn uq2 (hFq i9 h9))).trans (F340 i9 h9)
      have F342 : ∀ i9 : Nat, i9 < nf → f12 (fq i9) = some (.inr (3, [.ref (fk i9), .int (nI (fz i9))])) := fun i9 h9 => (k14 _ (z_nn uq2 (hFq i9 h9))).trans (F341 i9 h9)
      have F343 : ∀ i9 : Nat, i9 < nf → f15 (fq i9) = some (.inr (3, [.ref (fk i9), .int (nI (fz i9))])) := fun i9 h9 => (k17 _ (z_nn uq2 (hFq i9 h9))).trans (F342 i9 h9)
      have F344 : ∀ i9 : Nat, i9 < nf → f18 (fq i9) = some (.inr (3, [.ref (fk i9), .int (nI (fz i9))])) := fun i9 h9 => k20 _ _ (F343 i9 h9) 
      have F345 : ∀ i9 : Nat, i9 < nf → f3 (fk i9) = some (.inl (cy 0, 4, .inl (fc i9))) := fun i9 h9 => (k5 _ (z_nn uq2 (hFk i9 h9))).trans (hFk i9 h9)
      have F346 : ∀ i9 : Nat, i9 < nf → f6 (fk i9) = some (.inl (cy 0, 4, .inl (fc i9))) := fun i9 h9 => (k8 _ (z_nn uq2 (hFk i9 h9))).trans (F345 i9 h9)
      have F347 : ∀ i9 : Nat, i9 < nf → f9 (fk i9) = some (.inl (cy 0, 4, .inl (fc i9))) := fun i9 h9 => (k11 _ (z_nn uq2 (hFk i9 h9))).trans (F346 i9 h9)
      have F348 : ∀ i9 : Nat, i9 < nf → f12 (fk i9) = some (.inl (cy 0, 4, .inl (fc i9))) := fun i9 h9 => (k14 _ (z_nn uq2 (hFk i9 h9))).trans (F347 i9 h9)
      have F349 : ∀ i9 : Nat, i9 < nf → f15 (fk i9) = some (.inl (cy 0, 4, .inl (fc i9))) := fun i9 h9 => (k17 _ (z_nn uq2 (hFk i9 h9))).trans (F348 i9 h9)
      have F350 : ∀ i9 : Nat, i9 < nf → f18 (fk i9) = some (.inl (cy 0, 4, .inl (fc i9))) := fun i9 h9 => k20 _ _ (F349 i9 h9) 
      have F351 : ∀ i9 : Nat, i9 < nc → f3 (cn i9) = some (.inr (0, [.int (ce i9), .int (cm i9)])) := fun i9 h9 => (k5 _ (z_nn uq2 (hCn i9 h9))).trans (hCn i9 h9)
      have F352 : ∀ i9 : Nat, i9 < nc → f6 (cn i9) = some (.inr (0, [.int (ce i9), .int (cm i9)])) := fun i9 h9 => (k8 _ (z_nn uq2 (hCn i9 h9))).trans (F351 i9 h9)
      have F353 : ∀ i9 : Nat, i9 < nc → f9 (cn i9) = some (.inr (0, [.int (ce i9), .int (cm i9)])) := fun i9 h9 => (k11 _ (z_nn uq2 (hCn i9 h9))).trans (F352 i9 h9)
      have F354 : ∀ i9 : Nat, i9 < nc → f12 (cn i9) = some (.inr (0, [.int (ce i9), .int (cm i9)])) := fun i9 h9 => (k14 _ (z_nn uq2 (hCn i9 h9))).trans (F353 i9 h9)
      have F355 : ∀ i9 : Nat, i9 < nc → f15 (cn i9) = some (.inr (0, [.int (ce i9), .int (cm i9)])) := fun i9 h9 => (k17 _ (z_nn uq2 (hCn i9 h9))).trans (F354 i9 h9)
      have F356 : ∀ i9 : Nat, i9 < nc → f18 (cn i9) = some (.inr (0, [.int (ce i9), .int (cm i9)])) := fun i9 h9 => k20 _ _ (F355 i9 h9) 
      have F357 : ∀ i9 : Nat, i9 < 4 → f3 (ea i9) = some (.inr (1, [.ref (ma i9), .int (nI (sq i9))])) := fun i9 h9 => (k5 _ (z_nn uq2 (hEa i9 h9))).trans (hEa i9 h9)
      have F358 : ∀ i9 : Nat, i9 < 4 → f6 (ea i9) = some (.inr (1, [.ref (ma i9), .int (nI (sq i9))])) := fun i9 h9 => (k8 _ (z_nn uq2 (hEa i9 h9))).trans (F357 i9 h9)
      have F359 : ∀ i9 : Nat, i9 < 4 → f9 (ea i9) = some (.inr (1, [.ref (ma i9), .int (nI (sq i9))])) := fun i9 h9 => (k11 _ (z_nn uq2 (hEa i9 h9))).trans (F358 i9 h9)
      have F360 : ∀ i9 : Nat, i9 < 4 → f12 (ea i9) = some (.inr (1, [.ref (ma i9), .int (nI (sq i9))])) := fun i9 h9 => (k14 _ (z_nn uq2 (hEa i9 h9))).trans (F359 i9 h9)
      have F361 : ∀ i9 : Nat, i9 < 4 → f15 (ea i9) = some (.inr (1, [.ref (ma i9), .int (nI (sq i9))])) := fun i9 h9 => (k17 _ (z_nn uq2 (hEa i9 h9))).trans (F360 i9 h9)
      have F362 : ∀ i9 : Nat, i9 < 4 → f18 (ea i9) = some (.inr (1, [.ref (ma i9), .int (nI (sq i9))])) := fun i9 h9 => k20 _ _ (F361 i9 h9) 
      have F363 : ∀ i9 : Nat, i9 < 4 → f3 (ma i9) = some (.inl (cy 0, 60, .inl (mb i9))) := fun i9 h9 => (k5 _ (z_nn uq2 (hMa i9 h9))).trans (hMa i9 h9)
      have F364 : ∀ i9 : Nat, i9 < 4 → f6 (ma i9) = some (.inl (cy 0, 60, .inl (mb i9))) := fun i9 h9 => (k8 _ (z_nn uq2 (hMa i9 h9))).trans (F363 i9 h9)
      have F365 : ∀ i9 : Nat, i9 < 4 → f9 (ma i9) = some (.inl (cy 0, 60, .inl (mb i9))) := fun i9 h9 => (k11 _ (z_nn uq2 (hMa i9 h9))).trans (F364 i9 h9)
      have F366 : ∀ i9 : Nat, i9 < 4 → f12 (ma i9) = some (.inl (cy 0, 60, .inl (mb i9))) := fun i9 h9 => (k14 _ (z_nn uq2 (hMa i9 h9))).trans (F365 i9 h9)
      have F367 : ∀ i9 : Nat, i9 < 4 → f15 (ma i9) = some (.inl (cy 0, 60, .inl (mb i9))) := fun i9 h9 => (k17 _ (z_nn uq2 (hMa i9 h9))).trans (F366 i9 h9)
      have F368 : ∀ i9 : Nat, i9 < 4 → f18 (ma i9) = some (.inl (cy 0, 60, .inl (mb i9))) := fun i9 h9 => k20 _ _ (F367 i9 h9) 
      exact z_iret C hr rfl hz hS ⟨u1, u2, u3, gv, nl, gu, nn, ga, gr, fg, pt, kd, ln, pp, wg, wd, hs, bf, nf, gf, fq, fk, fz, fc, nc, gc, cn, ce, cm, sq, mb, ks, kk, kv, lk, (by rw [if_pos hk, if_neg c30]), rfl, rfl, ⟨a29, a260, a266, a272, a278, a284, a290, a296, a302, a308, a314, a320, a326, F332, F338, F344, F350, F356, F362, F368, hn60, hl12, hf6, hc60, hs40, hga, hgr, hln, hk5, hk4, hfi, hpi, har, hgf, hfz, hgc, hG, hsq, hei, hmi, kne, hca, hcr, hlk⟩⟩ (Nat.le_of_ble_eq_true rfl) (Nat.le_of_ble_eq_true rfl) dX7_family_44
  · refine lv_iconst (v := 4) hx hb dX7_family_0 (by decide) ?_
    refine z_newa (atype := .int) (t0 := 0) (N' := 4) (x := (.inl (fun _ => 0))) C hz hS hA rfl mA_int rfl (fun _ => rfl) (by decide) (Nat.le_of_ble_eq_true rfl) (by decide) (Nat.le_of_ble_eq_true rfl) (Nat.le_of_ble_eq_true rfl) dX7_family_1 (fun q369 H f371 uq370 a372 k373 hz hS => ?_)
    refine lv_dup hx hb dX7_family_3 rfl ?_
    refine lv_iconst (v := 0) hx hb dX7_family_4 (by decide) ?_
    refine lv_iload_n hx hb dX7_family_5 rfl (lv_at hl 1 rfl) ?_
    refine z_iast 0 C hz hS a372 (by decide) (Nat.le_of_ble_eq_true rfl) (by omega) dX7_family_6 (fun H locs f374 a375 k376 hz hS => ?_)
    refine lv_dup hx hb dX7_family_7 rfl ?_
    refine lv_iconst (v := 1) hx hb dX7_family_8 (by decide) ?_
    refine lv_iload_n hx hb dX7_family_9 rfl (lv_at hl 2 rfl) ?_
    refine z_iast 1 C hz hS a375 (by decide) (Nat.le_of_ble_eq_true rfl) (by omega) dX7_family_10 (fun H locs f377 a378 k379 hz hS => ?_)
    refine lv_dup hx hb dX7_family_11 rfl ?_
    refine lv_iconst (v := 2) hx hb dX7_family_12 (by decide) ?_
    refine lv_iload_n hx hb dX7_family_13 rfl (lv_at hl 3 rfl) ?_
    refine z_iast 2 C hz hS a378 (by decide) (Nat.le_of_ble_eq_true rfl) (by omega) dX7_family_14 (fun H locs f380 a381 k382 hz hS => ?_)
    refine lv_dup hx hb dX7_family_15 rfl ?_
    refine lv_iconst (v := 3) hx hb dX7_family_16 (by decide) ?_
    refine lv_iload hx hb dX7_family_17 (lv_at hl 4 rfl) ?_
    refine z_iast 3 C hz hS a381 (by decide) (Nat.le_of_ble_eq_true rfl) (by omega) dX7_family_19 (fun H locs f383 a384 k385 hz hS => ?_)
    refine lv_astore (lv' := [(5, .ref q369), (0, .ref o), (1, .int x), (2, .int y), (3, .int z), (4, .int v)]) hx hb dX7_family_20 hl (by decide) rfl (fun ls hl => ?_)
    refine lv_aload hx hb dX7_family_22 (lv_at hl 0 rfl) ?_
    refine z_callSi (As := [.ref q369]) C hz hS hA hl (k_X7_areKindsOnce l D cy f383 q369 (upd (upd (upd (upd (fun _ => 0) 0 x) 1 y) 2 z) 3 v) a384 ) zyX7_areKindsOnce mMX7_187 rfl rfl (Nat.le_of_ble_eq_true rfl) ⟨Nat.le_of_ble_eq_true rfl, Nat.le_of_ble_eq_true rfl⟩ ⟨Nat.le_of_ble_eq_true rfl, Nat.le_of_ble_eq_true rfl⟩ dX7_family_24 (fun r f386 H locs h387 hz hS => ?_)
    obtain ⟨rfl, k388⟩ := h387
    refine lv_topi (fun y389 e390 => ?_)
    obtain rfl : y389 = 0 := e390.trans (if_neg hk)
    refine lv_if_ne (tgt := 33) hx hb dX7_family_27 (by decide) (fun c391 => ?_) (fun c391 => ?_)
    · exact absurd c391 (by decide)
    refine lv_bipush (v := (-2)) hx hb dX7_family_30 (by decide) ?_
    have a392 : f371 o = some (.inr (7, [.ref fa, .ref fi, .ref nu, .int (nI nl), .ref fm, .int (nI nf), .ref co, .int (nI nc), .ref en, .ref ke, .long lk])) := (k373 _ (z_nn uq370 x_o)).trans x_o
    have a393 : f374 o = some (.inr (7, [.ref fa, .ref fi, .ref nu, .int (nI nl), .ref fm, .int (nI nf), .ref co, .int (nI nc), .ref en, .ref ke, .long lk])) := (k376 _ (z_nn uq370 x_o)).trans a392
    have a394 : f377 o = some (.inr (7, [.ref fa, .ref fi, .ref nu, .int (nI nl), .ref fm, .int (nI nf), .ref co, .int (nI nc), .ref en, .ref ke, .long lk])) := (k379 _ (z_nn uq370 x_o)).trans a393
    have a395 : f380 o = some (.inr (7, [.ref fa, .ref fi, .ref nu, .int (nI nl), .ref fm, .int (nI nf), .ref co, .int (nI nc), .ref en, .ref ke, .long lk])) := (k382 _ (z_nn uq370 x_o)).trans a394
    have a396 : f383 o = some (.inr (7, [.ref fa, .ref fi, .ref nu, .int (nI nl), .ref fm, .int (nI nf), .ref co, .int (nI nc), .ref en, .ref ke, .long lk])) := (k385 _ (z_nn uq370 x_o)).trans a395
    have a397 : f386 o = some (.inr (7, [.ref fa, .ref fi, .ref nu, .int (nI nl), .ref fm, .int (nI nf), .ref co, .int (nI nc), .ref en, .ref ke, .long lk])) := k388 _ _ a396 
    have a398 : f371 fa = some (.inr (2, [.int u1, .int u2, .int u3, .ref ev])) := (k373 _ (z_nn uq370 x_fa)).trans x_fa
    have a399 : f374 fa = some (.inr (2, [.int u1, .int u2, .int u3, .ref ev])) := (k376 _ (z_nn uq370 x_fa)).trans a398
    have a400 : f377 fa = some (.inr (2, [.int u1, .int u2, .int u3, .ref ev])) := (k379 _ (z_nn uq370 x_fa)).trans a399
    have a401 : f380 fa = some (.inr (2, [.int u1, .int u2, .int u3, .ref ev])) := (k382 _ (z_nn uq370 x_fa)).trans a400
    have a402 : f383 fa = some (.inr (2, [.int u1, .int u2, .int u3, .ref ev])) := (k385 _ (z_nn uq370 x_fa)).trans a401
    have a403 : f386 fa = some (.inr (2, [.int u1, .int u2, .int u3, .ref ev])) := k388 _ _ a402 
    have a404 : f371 ev = some (.inl (cy 0, 8, .inl gv)) := (k373 _ (z_nn uq370 x_ev)).trans x_ev
    have a405 : f374 ev = some (.inl (cy 0, 8, .inl gv)) := (k376 _ (z_nn uq370 x_ev)).trans a404
    have a406 : f377 ev = some (.inl (cy 0, 8, .inl gv)) := (k379 _ (z_nn uq370 x_ev)).trans a405
    have a407 : f380 ev = some (.inl (cy 0, 8, .inl gv)) := (k382 _ (z_nn uq370 x_ev)).trans a406
    have a408 : f383 ev = some (.inl (cy 0, 8, .inl gv)) := (k385 _ (z_nn uq370 x_ev)).trans a407
    have a409 : f386 ev = some (.inl (cy 0, 8, .inl gv)) := k388 _ _ a408 
    have a410 : f371 fi = some (.inr (5, [.ref al, .ref ra, .int (nI nn)])) := (k373 _ (z_nn uq370 x_fi)).trans x_fi
    have a411 : f374 fi = some (.inr (5, [.ref al, .ref ra, .int (nI nn)])) := (k376 _ (z_nn uq370 x_fi)).trans a410
    have a412 : f377 fi = some (.inr (5, [.ref al, .ref ra, .int (nI nn)])) := (k379 _ (z_nn uq370 x_fi)).trans a411
    have a413 : f380 fi = some (.inr (5, [.ref al, .ref ra, .int (nI nn)])) := (k382 _ (z_nn uq370 x_fi)).trans a412
    have a414 : f383 fi = some (.inr (5, [.ref al, .ref ra, .int (nI nn)])) := (k385 _ (z_nn uq370 x_fi)).trans a413
    have a415 : f386 fi = some (.inr (5, [.ref al, .ref ra, .int (nI nn)])) := k388 _ _ a414 
    have a416 : f371 al = some (.inl (cy 3, 60, .inr (.inr (.inr (.inr ga))))) := (k373 _ (z_nn uq370 x_al)).trans x_al
    have a417 : f374 al = some (.inl (cy 3, 60, .inr (.inr (.inr (.inr ga))))) := (k376 _ (z_nn uq370 x_al)).trans a416
    have a418 : f377 al = some (.inl (cy 3, 60, .inr (.inr (.inr (.inr ga))))) := (k379 _ (z_nn uq370 x_al)).trans a417
    have a419 : f380 al = some (.inl (cy 3, 60, .inr (.inr (.inr (.inr ga))))) := (k382 _ (z_nn uq370 x_al)).trans a418
    have a420 : f383 al = some (.inl (cy 3, 60, .inr (.inr (.inr (.inr ga))))) := (k385 _ (z_nn uq370 x_al)).trans a419
    have a421 : f386 al = some (.inl (cy 3, 60, .inr (.inr (.inr (.inr ga))))) := k388 _ _ a420 
    have a422 : f371 ra = some (.inl (cy 3, 60, .inr (.inr (.inr (.inr gr))))) := (k373 _ (z_nn uq370 x_ra)).trans x_ra
    have a423 : f374 ra = some (.inl (cy 3, 60, .inr (.inr (.inr (.inr gr))))) := (k376 _ (z_nn uq370 x_ra)).trans a422
    have a424 : f377 ra = some (.inl (cy 3, 60, .inr (.inr (.inr (.inr gr))))) := (k379 _ (z_nn uq370 x_ra)).trans a423
    have a425 : f380 ra = some (.inl (cy 3, 60, .inr (.inr (.inr (.inr gr))))) := (k382 _ (z_nn uq370 x_ra)).trans a424
    have a426 : f383 ra = some (.inl (cy 3, 60, .inr (.inr (.inr (.inr gr))))) := (k385 _ (z_nn uq370 x_ra)).trans a425
    have a427 : f386 ra = some (.inl (cy 3, 60, .inr (.inr (.inr (.inr gr))))) := k388 _ _ a426 
    have a428 : f371 nu = some (.inl (cy 0, 12, .inl gu)) := (k373 _ (z_nn uq370 x_nu)).trans x_nu
    have a429 : f374 nu = some (.inl (cy 0, 12, .inl gu)) := (k376 _ (z_nn uq370 x_nu)).trans a428
    have a430 : f377 nu = some (.inl (cy 0, 12, .inl gu)) := (k379 _ (z_nn uq370 x_nu)).trans a429
    have a431 : f380 nu = some (.inl (cy 0, 12, .inl gu)) := (k382 _ (z_nn uq370 x_nu)).trans a430
    have a432 : f383 nu = some (.inl (cy 0, 12, .inl gu)) := (k385 _ (z_nn uq370 x_nu)).trans a431
    have a433 : f386 nu = some (.inl (cy 0, 12, .inl gu)) := k388 _ _ a432 
    have a434 : f371 fm = some (.inl (cy 4, 6, .inr (.inr (.inr (.inr gf))))) := (k373 _ (z_nn uq370 x_fm)).trans x_fm
    have a435 : f374 fm = some (.inl (cy 4, 6, .inr (.inr (.inr (.inr gf))))) := (k376 _ (z_nn uq370 x_fm)).trans a434
    have a436 : f377 fm = some (.inl (cy 4, 6, .inr (.inr (.inr (.inr gf))))) := (k379 _ (z_nn uq370 x_fm)).trans a435
    have a437 : f380 fm = some (.inl (cy 4, 6, .inr (.inr (.inr (.inr gf))))) := (k382 _ (z_nn uq370 x_fm)).trans a436
    have a438 : f383 fm = some (.inl (cy 4, 6, .inr (.inr (.inr (.inr gf))))) := (k385 _ (z_nn uq370 x_fm)).trans a437
    have a439 : f386 fm = some (.inl (cy 4, 6, .inr (.inr (.inr (.inr gf))))) := k388 _ _ a438 
    have a440 : f371 co = some (.inl (cy 5, 60, .inr (.inr (.inr (.inr gc))))) := (k373 _ (z_nn uq370 x_co)).trans x_co
    have a441 : f374 co = some (.inl (cy 5, 60, .inr (.inr (.inr (.inr gc))))) := (k376 _ (z_nn uq370 x_co)).trans a440
    have a442 : f377 co = some (.inl (cy 5, 60, .inr (.inr (.inr (.inr gc))))) := (k379 _ (z_nn uq370 x_co)).trans a441
    have a443 : f380 co = some (.inl (cy 5, 60, .inr (.inr (.inr (.inr gc))))) := (k382 _ (z_nn uq370 x_co)).trans a442
    have a444 : f383 co = some (.inl (cy 5, 60, .inr (.inr (.inr (.inr gc))))) := (k385 _ (z_nn uq370 x_co)).trans a443
    have a445 : f386 co = some (.inl (cy 5, 60, .inr (.inr (.inr (.inr gc))))) := k388 _ _ a444 
    have a446 : f371 en = some (.inl (cy 6, 4, .inr (.inr (.inr (.inr ge))))) := (k373 _ (z_nn uq370 x_en)).trans x_en
    have a447 : f374 en = some (.inl (cy 6, 4, .inr (.inr (.inr (.inr ge))))) := (k376 _ (z_nn uq370 x_en)).trans a446
    have a448 : f377 en = some (.inl (cy 6, 4, .inr (.inr (.inr (.inr ge))))) := (k379 _ (z_nn uq370 x_en)).trans a447
    have a449 : f380 en = some (.inl (cy 6, 4, .inr (.inr (.inr (.inr ge))))) := (k382 _ (z_nn uq370 x_en)).trans a448
    have a450 : f383 en = some (.inl (cy 6, 4, .inr (.inr (.inr (.inr ge))))) := (k385 _ (z_nn uq370 x_en)).trans a449
    have a451 : f386 en = some (.inl (cy 6, 4, .inr (.inr (.inr (.inr ge))))) := k388 _ _ a450 
    have a452 : f371 ke = some (.inr (6, [.ref kn, .ref vq, .int (nI ks)])) := (k373 _ (z_nn uq370 x_ke)).trans x_ke
    have a453 : f374 ke = some (.inr (6, [.ref kn, .ref vq, .int (nI ks)])) := (k376 _ (z_nn uq370 x_ke)).trans a452
    have a454 : f377 ke = some (.inr (6, [.ref kn, .ref vq, .int (nI ks)])) := (k379 _ (z_nn uq370 x_ke)).trans a453
    have a455 : f380 ke = some (.inr (6, [.ref kn, .ref vq, .int (nI ks)])) := (k382 _ (z_nn uq370 x_ke)).trans a454
    have a456 : f383 ke = some (.inr (6, [.ref kn, .ref vq, .int (nI ks)])) := (k385 _ (z_nn uq370 x_ke)).trans a455
    have a457 : f386 ke = some (.inr (6, [.ref kn, .ref vq, .int (nI ks)])) := k388 _ _ a456 
    have a458 : f371 kn = some (.inl (cy 0, 40, .inl kk)) := (k373 _ (z_nn uq370 x_kn)).trans x_kn
    have a459 : f374 kn = some (.inl (cy 0, 40, .inl kk)) := (k376 _ (z_nn uq370 x_kn)).trans a458
    have a460 : f377 kn = some (.inl (cy 0, 40, .inl kk)) := (k379 _ (z_nn uq370 x_kn)).trans a459
    have a461 : f380 kn = some (.inl (cy 0, 40, .inl kk)) := (k382 _ (z_nn uq370 x_kn)).trans a460
    have a462 : f383 kn = some (.inl (cy 0, 40, .inl kk)) := (k385 _ (z_nn uq370 x_kn)).trans a461
    have a463 : f386 kn = some (.inl (cy 0, 40, .inl kk)) := k388 _ _ a462 
    have a464 : f371 vq = some (.inl (cy 0, 40, .inl kv)) := (k373 _ (z_nn uq370 x_vq)).trans x_vq
    have a465 : f374 vq = some (.inl (cy 0, 40, .inl kv)) := (k376 _ (z_nn uq370 x_vq)).trans a464
    have a466 : f377 vq = some (.inl (cy 0, 40, .inl kv)) := (k379 _ (z_nn uq370 x_vq)).trans a465
    have a467 : f380 vq = some (.inl (cy 0, 40, .inl kv)) := (k382 _ (z_nn uq370 x_vq)).trans a466
    have a468 : f383 vq = some (.inl (cy 0, 40, .inl kv)) := (k385 _ (z_nn uq370 x_vq)).trans a467
    have a469 : f386 vq = some (.inl (cy 0, 40, .inl kv)) := k388 _ _ a468 
    have F470 : ∀ i9 : Nat, i9 < nn → f371 (fg i9) = some (.inr (4, [.int (kd i9), .ref (pt i9), .long (wg i9), .int (wd i9), .int (nI i9), .int (hs i9), .int (bf i9)])) := fun i9 h9 => (k373 _ (z_nn uq370 (hF i9 h9))).trans (hF i9 h9)
    have F471 : ∀ i9 : Nat, i9 < nn → f374 (fg i9) = some (.inr (4, [.int (kd i9), .ref (pt i9), .long (wg i9), .int (wd i9), .int (nI i9), .int (hs i9), .int (bf i9)])) := fun i9 h9 => (k376 _ (z_nn uq370 (hF i9 h9))).trans (F470 i9 h9)
    have F472 : ∀ i9 : Nat, i9 < nn → f377 (fg i9) = some (.inr (4, [.int (kd i9), .ref (pt i9), .long (wg i9), .int (wd i9), .int (nI i9), .int (hs i9), .int (bf i9)])) := fun i9 h9 => (k379 _ (z_nn uq370 (hF i9 h9))).trans (F471 i9 h9)
    have F473 : ∀ i9 : Nat, i9 < nn → f380 (fg i9) = some (.inr (4, [.int (kd i9), .ref (pt i9), .long (wg i9), .int (wd i9), .int (nI i9), .int (hs i9), .int (bf i9)])) := fun i9 h9 => (k382 _ (z_nn uq370 (hF i9 h9))).trans (F472 i9 h9)
    have F474 : ∀ i9 : Nat, i9 < nn → f383 (fg i9) = some (.inr (4, [.int (kd i9), .ref (pt i9), .long (wg i9), .int (wd i9), .int (nI i9), .int (hs i9), .int (bf i9)])) := fun i9 h9 => (k385 _ (z_nn uq370 (hF i9 h9))).trans (F473 i9 h9)
    have F475 : ∀ i9 : Nat, i9 < nn → f386 (fg i9) = some (.inr (4, [.int (kd i9), .ref (pt i9), .long (wg i9), .int (wd i9), .int (nI i9), .int (hs i9), .int (bf i9)])) := fun i9 h9 => k388 _ _ (F474 i9 h9) 
    have F476 : ∀ i9 : Nat, i9 < nn → f371 (pt i9) = some (.inl (cy 1, (ln i9), .inr (.inl (pp i9)))) := fun i9 h9 => (k373 _ (z_nn uq370 (hP i9 h9))).trans (hP i9 h9)
    have F477 : ∀ i9 : Nat, i9 < nn → f374 (pt i9) = some (.inl (cy 1, (ln i9), .inr (.inl (pp i9)))) := fun i9 h9 => (k376 _ (z_nn uq370 (hP i9 h9))).trans (F476 i9 h9)
    have F478 : ∀ i9 : Nat, i9 < nn → f377 (pt i9) = some (.inl (cy 1, (ln i9), .inr (.inl (pp i9)))) := fun i9 h9 => (k379 _ (z_nn uq370 (hP i9 h9))).trans (F477 i9 h9)
    have F479 : ∀ i9 : Nat, i9 < nn → f380 (pt i9) = some (.inl (cy 1, (ln i9), .inr (.inl (pp i9)))) := fun i9 h9 => (k382 _ (z_nn uq370 (hP i9 h9))).trans (F478 i9 h9)
    have F480 : ∀ i9 : Nat, i9 < nn → f383 (pt i9) = some (.inl (cy 1, (ln i9), .inr (.inl (pp i9)))) := fun i9 h9 => (k385 _ (z_nn uq370 (hP i9 h9))).trans (F479 i9 h9)
    have F481 : ∀ i9 : Nat, i9 < nn → f386 (pt i9) = some (.inl (cy 1, (ln i9), .inr (.inl (pp i9)))) := fun i9 h9 => k388 _ _ (F480 i9 h9) 
    have F482 : ∀ i9 : Nat, i9 < nf → f371 (fq i9) = some (.inr (3, [.ref (fk i9), .int (nI (fz i9))])) := fun i9 h9 => (k373 _ (z_nn uq370 (hFq i9 h9))).trans (hFq i9 h9)
    have F483 : ∀ i9 : Nat, i9 < nf → f374 (fq i9) = some (.inr (3, [.ref (fk i9), .int (nI (fz i9))])) := fun i9 h9 => (k376 _ (z_nn uq370 (hFq i9 h9))).trans (F482 i9 h9)
    have F484 : ∀ i9 : Nat, i9 < nf → f377 (fq i9) = some (.inr (3, [.ref (fk i9), .int (nI (fz i9))])) := fun i9 h9 => (k379 _ (z_nn uq370 (hFq i9 h9))).trans (F483 i9 h9)
    have F485 : ∀ i9 : Nat, i9 < nf → f380 (fq i9) = some (.inr (3, [.ref (fk i9), .int (nI (fz i9))])) := fun i9 h9 => (k382 _ (z_nn uq370 (hFq i9 h9))).trans (F484 i9 h9)
    have F486 : ∀ i9 : Nat, i9 < nf → f383 (fq i9) = some (.inr (3, [.ref (fk i9), .int (nI (fz i9))])) := fun i9 h9 => (k385 _ (z_nn uq370 (hFq i9 h9))).trans (F485 i9 h9)
    have F487 : ∀ i9 : Nat, i9 < nf → f386 (fq i9) = some (.inr (3, [.ref (fk i9), .int (nI (fz i9))])) := fun i9 h9 => k388 _ _ (F486 i9 h9) 
    have F488 : ∀ i9 : Nat, i9 < nf → f371 (fk i9) = some (.inl (cy 0, 4, .inl (fc i9))) := fun i9 h9 => (k373 _ (z_nn uq370 (hFk i9 h9))).trans (hFk i9 h9)
    have F489 : ∀ i9 : Nat, i9 < nf → f374 (fk i9) = some (.inl (cy 0, 4, .inl (fc i9))) := fun i9 h9 => (k376 _ (z_nn uq370 (hFk i9 h9))).trans (F488 i9 h9)
    have F490 : ∀ i9 : Nat, i9 < nf → f377 (fk i9) = some (.inl (cy 0, 4, .inl (fc i9))) := fun i9 h9 => (k379 _ (z_nn uq370 (hFk i9 h9))).trans (F489 i9 h9)
    have F491 : ∀ i9 : Nat, i9 < nf → f380 (fk i9) = some (.inl (cy 0, 4, .inl (fc i9))) := fun i9 h9 => (k382 _ (z_nn uq370 (hFk i9 h9))).trans (F490 i9 h9)
    have F492 : ∀ i9 : Nat, i9 < nf → f383 (fk i9) = some (.inl (cy 0, 4, .inl (fc i9))) := fun i9 h9 => (k385 _ (z_nn uq370 (hFk i9 h9))).trans (F491 i9 h9)
    have F493 : ∀ i9 : Nat, i9 < nf → f386 (fk i9) = some (.inl (cy 0, 4, .inl (fc i9))) := fun i9 h9 => k388 _ _ (F492 i9 h9) 
    have F494 : ∀ i9 : Nat, i9 < nc → f371 (cn i9) = some (.inr (0, [.int (ce i9), .int (cm i9)])) := fun i9 h9 => (k373 _ (z_nn uq370 (hCn i9 h9))).trans (hCn i9 h9)
    have F495 : ∀ i9 : Nat, i9 < nc → f374 (cn i9) = some (.inr (0, [.int (ce i9), .int (cm i9)])) := fun i9 h9 => (k376 _ (z_nn uq370 (hCn i9 h9))).trans (F494 i9 h9)
    have F496 : ∀ i9 : Nat, i9 < nc → f377 (cn i9) = some (.inr (0, [.int (ce i9), .int (cm i9)])) := fun i9 h9 => (k379 _ (z_nn uq370 (hCn i9 h9))).trans (F495 i9 h9)
    have F497 : ∀ i9 : Nat, i9 < nc → f380 (cn i9) = some (.inr (0, [.int (ce i9), .int (cm i9)])) := fun i9 h9 => (k382 _ (z_nn uq370 (hCn i9 h9))).trans (F496 i9 h9)
    have F498 : ∀ i9 : Nat, i9 < nc → f383 (cn i9) = some (.inr (0, [.int (ce i9), .int (cm i9)])) := fun i9 h9 => (k385 _ (z_nn uq370 (hCn i9 h9))).trans (F497 i9 h9)
    have F499 : ∀ i9 : Nat, i9 < nc → f386 (cn i9) = some (.inr (0, [.int (ce i9), .int (cm i9)])) := fun i9 h9 => k388 _ _ (F498 i9 h9) 
    have F500 : ∀ i9 : Nat, i9 < 4 → f371 (ea i9) = some (.inr (1, [.ref (ma i9), .int (nI (sq i9))])) := fun i9 h9 => (k373 _ (z_nn uq370 (hEa i9 h9))).trans (hEa i9 h9)
    have F501 : ∀ i9 : Nat, i9 < 4 → f374 (ea i9) = some (.inr (1, [.ref (ma i9), .int (nI (sq i9))])) := fun i9 h9 => (k376 _ (z_nn uq370 (hEa i9 h9))).trans (F500 i9 h9)
    have F502 : ∀ i9 : Nat, i9 < 4 → f377 (ea i9) = some (.inr (1, [.ref (ma i9), .int (nI (sq i9))])) := fun i9 h9 => (k379 _ (z_nn uq370 (hEa i9 h9))).trans (F501 i9 h9)
    have F503 : ∀ i9 : Nat, i9 < 4 → f380 (ea i9) = some (.inr (1, [.ref (ma i9), .int (nI (sq i9))])) := fun i9 h9 => (k382 _ (z_nn uq370 (hEa i9 h9))).trans (F502 i9 h9)
    have F504 : ∀ i9 : Nat, i9 < 4 → f383 (ea i9) = some (.inr (1, [.ref (ma i9), .int (nI (sq i9))])) := fun i9 h9 => (k385 _ (z_nn uq370 (hEa i9 h9))).trans (F503 i9 h9)
    have F505 : ∀ i9 : Nat, i9 < 4 → f386 (ea i9) = some (.inr (1, [.ref (ma i9), .int (nI (sq i9))])) := fun i9 h9 => k388 _ _ (F504 i9 h9) 
    have F506 : ∀ i9 : Nat, i9 < 4 → f371 (ma i9) = some (.inl (cy 0, 60, .inl (mb i9))) := fun i9 h9 => (k373 _ (z_nn uq370 (hMa i9 h9))).trans (hMa i9 h9)
    have F507 : ∀ i9 : Nat, i9 < 4 → f374 (ma i9) = some (.inl (cy 0, 60, .inl (mb i9))) := fun i9 h9 => (k376 _ (z_nn uq370 (hMa i9 h9))).trans (F506 i9 h9)
    have F508 : ∀ i9 : Nat, i9 < 4 → f377 (ma i9) = some (.inl (cy 0, 60, .inl (mb i9))) := fun i9 h9 => (k379 _ (z_nn uq370 (hMa i9 h9))).trans (F507 i9 h9)
    have F509 : ∀ i9 : Nat, i9 < 4 → f380 (ma i9) = some (.inl (cy 0, 60, .inl (mb i9))) := fun i9 h9 => (k382 _ (z_nn uq370 (hMa i9 h9))).trans (F508 i9 h9)
    have F510 : ∀ i9 : Nat, i9 < 4 → f383 (ma i9) = some (.inl (cy 0, 60, .inl (mb i9))) := fun i9 h9 => (k385 _ (z_nn uq370 (hMa i9 h9))).trans (F509 i9 h9)
    have F511 : ∀ i9 : Nat, i9 < 4 → f386 (ma i9) = some (.inl (cy 0, 60, .inl (mb i9))) := fun i9 h9 => k388 _ _ (F510 i9 h9) 
    exact z_iret C hr rfl hz hS ⟨u1, u2, u3, gv, nl, gu, nn, ga, gr, fg, pt, kd, ln, pp, wg, wd, hs, bf, nf, gf, fq, fk, fz, fc, nc, gc, cn, ce, cm, sq, mb, ks, kk, kv, lk, (by rw [if_neg hk]), rfl, rfl, ⟨a397, a403, a409, a415, a421, a427, a433, a439, a445, a451, a457, a463, a469, F475, F481, F487, F493, F499, F505, F511, hn60, hl12, hf6, hc60, hs40, hga, hgr, hln, hk5, hk4, hfi, hpi, har, hgf, hfz, hgc, hG, hsq, hei, hmi, kne, hca, hcr, hlk⟩⟩ (Nat.le_of_ble_eq_true rfl) (Nat.le_of_ble_eq_true rfl) dX7_family_32
abbrev rmX7_findFamily_A : Room := { frames := 0, cells := 0, slots := 0, locals := 0 }
set_option maxHeartbeats 4000000 in
set_option maxRecDepth 100000 in
theorem k_X7_findFamily_A (l : Launch) (D : va_G) (cy : Nat → ClassId) (f : zM) (o : Nat) (fa : Nat) (fi : Nat) (nu : Nat) (nl : Nat) (fm : Nat) (nf : Nat) (co : Nat) (nc : Nat) (en : Nat) (ke : Nat) (lk : Int64) (gf : Nat → Option Nat) (fq : Nat → Nat) (j : Nat) (x : Int32) (p0 : f o = some (.inr (7, [.ref fa, .ref fi, .ref nu, .int (nI nl), .ref fm, .int (nI nf), .ref co, .int (nI nc), .ref en, .ref ke, .long lk]))) (p1 : f fm = some (.inl (cy 4, 6, .inr (.inr (.inr (.inr gf))))))  (hgf : ∀ i, i < nf → gf i = some (fq i)) (hxj : x = nI j) (hj : j < nf) (hb6 : nf ≤ 6) : zCq l D cy yX7_findFamily cX7_findFamily 2 (Option.some (Jvm.ClassFile.FieldType.object "KindRows$Family")) rmX7_findFamily_A [.ref o, .int x] f (fun (r : Option Nat) (f1 : zM) => r = (some (fq j)) ∧ (∀ (b : Nat) (e : va_E), f b = some e → f1 b = some e)) := by
  intro sz
  refine z_body (by decide +kernel) (Nat.le_of_ble_eq_true rfl) ?_
  intro p e s m below meth c ls C hr hin hsz hz hl
  subst hsz
  have hx := C.1
  have hb := C.2.1
  have hA : ∀ q, s.heap.size ≤ q → zA f s.heap.size q := fun q h => Or.inr h
  have hS : va_S (zA f s.heap.size) s.heap s.heap [] := va_S.rf
  have hl : lv_has ls 2 [(0, .ref o), (1, .int x)] := hl
  refine lv_iload_n hx hb dX7_findFamily_0 rfl (lv_at hl 1 rfl) ?_
  refine lv_if_lt (tgt := 21) hx hb dX7_findFamily_1 (by decide) (fun c1 => ?_) (fun c1 => ?_)
  · exact absurd c1 (by rw [hxj]; exact nI_pos (by omega))
  refine lv_iload_n hx hb dX7_findFamily_4 rfl (lv_at hl 1 rfl) ?_
  refine lv_aload_n hx hb dX7_findFamily_5 rfl (lv_at hl 0 rfl) ?_
  refine z_get (v := .int (nI nf)) C hz p0 zl7 mFX7_37 (by decide) rfl dX7_findFamily_6 ?_
  refine lv_icmp_ge (tgt := 21) hx hb dX7_findFamily_9 (by decide) (fun c2 => ?_) (fun c2 => ?_)
  · exact absurd ((nI_leI (a := nf) (b := j) (by omega) (by omega)).mp (by rw [← hxj]; exact c2)) (by omega)
  refine lv_aload_n hx hb dX7_findFamily_12 rfl (lv_at hl 0 rfl) ?_
  refine z_get (v := .ref fm) C hz p0 zl7 mFX7_33 (by decide) rfl dX7_findFamily_13 ?_
  refine lv_iload_n hx hb dX7_findFamily_16 rfl (lv_at hl 1 rfl) ?_
  refine z_aldq j C hz p1 rfl hxj (by omega) (by omega) dX7_findFamily_17 ?_
  rw [hgf j hj]
  refine W.eq (g2 := F0 m 18 ls [.ref (fq j)]) rfl ?_
  refine lv_goto (tgt := 22) hx hb dX7_findFamily_18 (by decide) ?_
  exact z_aret (r := some (fq j)) C hr (Or.inl ⟨_, rfl⟩) rfl hz hS ⟨rfl, (fun b e hb => hb)⟩ (Nat.le_of_ble_eq_true rfl) (Nat.le_of_ble_eq_true rfl) dX7_findFamily_22
abbrev rmX7_findFamily_B : Room := { frames := 0, cells := 0, slots := 0, locals := 0 }
set_option maxHeartbeats 4000000 in
set_option maxRecDepth 100000 in
theorem k_X7_findFamily_B (l : Launch) (D : va_G) (cy : Nat → ClassId) (f : zM) (o : Nat) (fa : Nat) (fi : Nat) (nu : Nat) (nl : Nat) (fm : Nat) (nf : Nat) (co : Nat) (nc : Nat) (en : Nat) (ke : Nat) (lk : Int64) (x : Int32) (p0 : f o = some (.inr (7, [.ref fa, .ref fi, .ref nu, .int (nI nl), .ref fm, .int (nI nf), .ref co, .int (nI nc), .ref en, .ref ke, .long lk])))  (hxn : ∀ j, j < nf → x ≠ nI j) (hb6 : nf ≤ 6) : zCq l D cy yX7_findFamily cX7_findFamily 2 (Option.some (Jvm.ClassFile.FieldType.object "KindRows$Family")) rmX7_findFamily_B [.ref o, .int x] f (fun (r : Option Nat) (f1 : zM) => r = none ∧ (∀ (b : Nat) (e : va_E), f b = some e → f1 b = some e)) := by
  intro sz
  refine z_body (by decide +kernel) (Nat.le_of_ble_eq_true rfl) ?_
  intro p e s m below meth c ls C hr hin hsz hz hl
  subst hsz
  have hx := C.1
  have hb := C.2.1
  have hA : ∀ q, s.heap.size ≤ q → zA f s.heap.size q := fun q h => Or.inr h
  have hS : va_S (zA f s.heap.size) s.heap s.heap [] := va_S.rf
  have hl : lv_has ls 2 [(0, .ref o), (1, .int x)] := hl
  refine lv_iload_n hx hb dX7_findFamily_0 rfl (lv_at hl 1 rfl) ?_
  refine lv_if_lt (tgt := 21) hx hb dX7_findFamily_1 (by decide) (fun c1 => ?_) (fun c1 => ?_)
  · refine lv_null hx hb dX7_findFamily_21 ?_
    exact z_aret (r := none) C hr (Or.inl ⟨_, rfl⟩) rfl hz hS ⟨rfl, (fun b e hb => hb)⟩ (Nat.le_of_ble_eq_true rfl) (Nat.le_of_ble_eq_true rfl) dX7_findFamily_22
  · refine lv_iload_n hx hb dX7_findFamily_4 rfl (lv_at hl 1 rfl) ?_
    refine lv_aload_n hx hb dX7_findFamily_5 rfl (lv_at hl 0 rfl) ?_
    refine z_get (v := .int (nI nf)) C hz p0 zl7 mFX7_37 (by decide) rfl dX7_findFamily_6 ?_
    refine lv_icmp_ge (tgt := 21) hx hb dX7_findFamily_9 (by decide) (fun c2 => ?_) (fun c2 => ?_)
    rotate_left
    · exact absurd (z_ixl c1 c2 (by omega)) (fun ⟨j9, h9, e9⟩ => hxn j9 h9 e9)
    refine lv_null hx hb dX7_findFamily_21 ?_
    exact z_aret (r := none) C hr (Or.inl ⟨_, rfl⟩) rfl hz hS ⟨rfl, (fun b e hb => hb)⟩ (Nat.le_of_ble_eq_true rfl) (Nat.le_of_ble_eq_true rfl) dX7_findFamily_22
abbrev rmX7_findConstant_A : Room := { frames := 0, cells := 0, slots := 0, locals := 0 }
set_option maxHeartbeats 4000000 in
set_option maxRecDepth 100000 in
theorem k_X7_findConstant_A (l : Launch) (D : va_G) (cy : Nat → ClassId) (f : zM) (o : Nat) (fa : Nat) (fi : Nat) (nu : Nat) (nl : Nat) (fm : Nat) (nf : Nat) (co : Nat) (nc : Nat) (en : Nat) (ke : Nat) (lk : Int64) (gc : Nat → Option Nat) (cn : Nat → Nat) (j : Nat) (x : Int32) (p0 : f o = some (.inr (7, [.ref fa, .ref fi, .ref nu, .int (nI nl), .ref fm, .int (nI nf), .ref co, .int (nI nc), .ref en, .ref ke, .long lk]))) (p1 : f co = some (.inl (cy 5, 60, .inr (.inr (.inr (.inr gc))))))  (hgc : ∀ i, i < nc → gc i = some (cn i)) (hxj : x = nI j) (hj : j < nc) (hb6 : nc ≤ 60) : zCq l D cy yX7_findConstant cX7_findConstant 2 (Option.some (Jvm.ClassFile.FieldType.object "KindRows$Constant")) rmX7_findConstant_A [.ref o, .int x] f (fun (r : Option Nat) (f1 : zM) => r = (some (cn j)) ∧ (∀ (b : Nat) (e : va_E), f b = some e → f1 b = some e)) := by
  intro sz
  refine z_body (by decide +kernel) (Nat.le_of_ble_eq_true rfl) ?_
  intro p e s m below meth c ls C hr hin hsz hz hl
  subst hsz
  have hx := C.1
  have hb := C.2.1
  have hA : ∀ q, s.heap.size ≤ q → zA f s.heap.size q := fun q h => Or.inr h
  have hS : va_S (zA f s.heap.size) s.heap s.heap [] := va_S.rf
  have hl : lv_has ls 2 [(0, .ref o), (1, .int x)] := hl
  refine lv_iload_n hx hb dX7_findConstant_0 rfl (lv_at hl 1 rfl) ?_
  refine lv_if_lt (tgt := 21) hx hb dX7_findConstant_1 (by decide) (fun c1 => ?_) (fun c1 => ?_)
  · exact absurd c1 (by rw [hxj]; exact nI_pos (by omega))
  refine lv_iload_n hx hb dX7_findConstant_4 rfl (lv_at hl 1 rfl) ?_
  refine lv_aload_n hx hb dX7_findConstant_5 rfl (lv_at hl 0 rfl) ?_
  refine z_get (v := .int (nI nc)) C hz p0 zl7 mFX7_46 (by decide) rfl dX7_findConstant_6 ?_
  refine lv_icmp_ge (tgt := 21) hx hb dX7_findConstant_9 (by decide) (fun c2 => ?_) (fun c2 => ?_)
  · exact absurd ((nI_leI (a := nc) (b := j) (by omega) (by omega)).mp (by rw [← hxj]; exact c2)) (by omega)
  refine lv_aload_n hx hb dX7_findConstant_12 rfl (lv_at hl 0 rfl) ?_
  refine z_get (v := .ref co) C hz p0 zl7 mFX7_42 (by decide) rfl dX7_findConstant_13 ?_
  refine lv_iload_n hx hb dX7_findConstant_16 rfl (lv_at hl 1 rfl) ?_
  refine z_aldq j C hz p1 rfl hxj (by omega) (by omega) dX7_findConstant_17 ?_
  rw [hgc j hj]
  refine W.eq (g2 := F0 m 18 ls [.ref (cn j)]) rfl ?_
  refine lv_goto (tgt := 22) hx hb dX7_findConstant_18 (by decide) ?_
  exact z_aret (r := some (cn j)) C hr (Or.inl ⟨_, rfl⟩) rfl hz hS ⟨rfl, (fun b e hb => hb)⟩ (Nat.le_of_ble_eq_true rfl) (Nat.le_of_ble_eq_true rfl) dX7_findConstant_22
abbrev rmX7_findConstant_B : Room := { frames := 0, cells := 0, slots := 0, locals := 0 }
set_option maxHeartbeats 4000000 in
set_option maxRecDepth 100000 in
theorem k_X7_findConstant_B (l : Launch) (D : va_G) (cy : Nat → ClassId) (f : zM) (o : Nat) (fa : Nat) (fi : Nat) (nu : Nat) (nl : Nat) (fm : Nat) (nf : Nat) (co : Nat) (nc : Nat) (en : Nat) (ke : Nat) (lk : Int64) (x : Int32) (p0 : f o = some (.inr (7, [.ref fa, .ref fi, .ref nu, .int (nI nl), .ref fm, .int (nI nf), .ref co, .int (nI nc), .ref en, .ref ke, .long lk])))  (hxn : ∀ j, j < nc → x ≠ nI j) (hb6 : nc ≤ 60) : zCq l D cy yX7_findConstant cX7_findConstant 2 (Option.some (Jvm.ClassFile.FieldType.object "KindRows$Constant")) rmX7_findConstant_B [.ref o, .int x] f (fun (r : Option Nat) (f1 : zM) => r = none ∧ (∀ (b : Nat) (e : va_E), f b = some e → f1 b = some e)) := by
  intro sz
  refine z_body (by decide +kernel) (Nat.le_of_ble_eq_true rfl) ?_
  intro p e s m below meth c ls C hr hin hsz hz hl
  subst hsz
  have hx := C.1
  have hb := C.2.1
  have hA : ∀ q, s.heap.size ≤ q → zA f s.heap.size q := fun q h => Or.inr h
  have hS : va_S (zA f s.heap.size) s.heap s.heap [] := va_S.rf
  have hl : lv_has ls 2 [(0, .ref o), (1, .int x)] := hl
  refine lv_iload_n hx hb dX7_findConstant_0 rfl (lv_at hl 1 rfl) ?_
  refine lv_if_lt (tgt := 21) hx hb dX7_findConstant_1 (by decide) (fun c1 => ?_) (fun c1 => ?_)
  · refine lv_null hx hb dX7_findConstant_21 ?_
    exact z_aret (r := none) C hr (Or.inl ⟨_, rfl⟩) rfl hz hS ⟨rfl, (fun b e hb => hb)⟩ (Nat.le_of_ble_eq_true rfl) (Nat.le_of_ble_eq_true rfl) dX7_findConstant_22
  · refine lv_iload_n hx hb dX7_findConstant_4 rfl (lv_at hl 1 rfl) ?_
    refine lv_aload_n hx hb dX7_findConstant_5 rfl (lv_at hl 0 rfl) ?_
    refine z_get (v := .int (nI nc)) C hz p0 zl7 mFX7_46 (by decide) rfl dX7_findConstant_6 ?_
    refine lv_icmp_ge (tgt := 21) hx hb dX7_findConstant_9 (by decide) (fun c2 => ?_) (fun c2 => ?_)
    rotate_left
    · exact absurd (z_ixl c1 c2 (by omega)) (fun ⟨j9, h9, e9⟩ => hxn j9 h9 e9)
    refine lv_null hx hb dX7_findConstant_21 ?_
    exact z_aret (r := none) C hr (Or.inl ⟨_, rfl⟩) rfl hz hS ⟨rfl, (fun b e hb => hb)⟩ (Nat.le_of_ble_eq_true rfl) (Nat.le_of_ble_eq_true rfl) dX7_findConstant_22
abbrev rmX7_tag : Room := { frames := 2, cells := 0, slots := 0, locals := 44 }
set_option maxHeartbeats 4000000 in
set_option maxRecDepth 100000 in
theorem k_X7_tag (l : Launch) (D : va_G) (cy : Nat → ClassId) (f : zM) (o : Nat) (fa : Nat) (fi : Nat) (nu : Nat) (fm : Nat) (co : Nat) (en : Nat) (ke : Nat) (ev : Nat) (al : Nat) (ra : Nat) (kn : Nat) (vq : Nat) (ge : Nat → Option Nat) (ea : Nat → Nat) (ma : Nat → Nat) (u1 : Int32) (u2 : Int32) (u3 : Int32) (gv : Nat → Int32) (nl : Nat) (gu : Nat → Int32) (nn : Nat) (ga : Nat → Option Nat) (gr : Nat → Option Nat) (fg : Nat → Nat) (pt : Nat → Nat) (kd : Nat → Int32) (ln : Nat → Nat) (pp : Nat → Nat → Int64) (wg : Nat → Int64) (wd : Nat → Int32) (hs : Nat → Int32) (bf : Nat → Int32) (nf : Nat) (gf : Nat → Option Nat) (fq : Nat → Nat) (fk : Nat → Nat) (fz : Nat → Nat) (fc : Nat → Nat → Int32) (nc : Nat) (gc : Nat → Option Nat) (cn : Nat → Nat) (ce : Nat → Int32) (cm : Nat → Int32) (sq : Nat → Nat) (mb : Nat → Nat → Int32) (ks : Nat) (kk : Nat → Int32) (kv : Nat → Int32) (lk : Int64) (x : Int32) (y : Int32)    (hI : zIX cy f o fa fi nu fm co en ke ev al ra kn vq ge ea ma u1 u2 u3 gv nl gu nn ga gr fg pt kd ln pp wg wd hs bf nf gf fq fk fz fc nc gc cn ce cm sq mb ks kk kv lk) : zCi l D cy yX7_tag cX7_tag 5 (Option.some Jvm.ClassFile.FieldType.int) rmX7_tag [.ref o, .int x, .int y] f (fun (r : Int32) (f1 : zM) => ∃ (u11 : Int32) (u21 : Int32) (u31 : Int32) (gv1 : Nat → Int32) (nl1 : Nat) (gu1 : Nat → Int32) (nn1 : Nat) (ga1 : Nat → Option Nat) (gr1 : Nat → Option Nat) (fg1 : Nat → Nat) (pt1 : Nat → Nat) (kd1 : Nat → Int32) (ln1 : Nat → Nat) (pp1 : Nat → Nat → Int64) (wg1 : Nat → Int64) (wd1 : Nat → Int32) (hs1 : Nat → Int32) (bf1 : Nat → Int32) (nf1 : Nat) (gf1 : Nat → Option Nat) (fq1 : Nat → Nat) (fk1 : Nat → Nat) (fz1 : Nat → Nat) (fc1 : Nat → Nat → Int32) (nc1 : Nat) (gc1 : Nat → Option Nat) (cn1 : Nat → Nat) (ce1 : Nat → Int32) (cm1 : Nat → Int32) (sq1 : Nat → Nat) (mb1 : Nat → Nat → Int32) (ks1 : Nat) (kk1 : Nat → Int32) (kv1 : Nat → Int32) (lk1 : Int64), (nl1 = nl) ∧ (nn1 = nn) ∧ zIX cy f1 o fa fi nu fm co en ke ev al ra kn vq ge ea ma u11 u21 u31 gv1 nl1 gu1 nn1 ga1 gr1 fg1 pt1 kd1 ln1 pp1 wg1 wd1 hs1 bf1 nf1 gf1 fq1 fk1 fz1 fc1 nc1 gc1 cn1 ce1 cm1 sq1 mb1 ks1 kk1 kv1 lk1) := by
  intro sz
  refine z_body (by decide +kernel) (Nat.le_of_ble_eq_true rfl) ?_
  intro p e s m below meth c ls C hr hin hsz hz hl
  subst hsz
  have hx := C.1
  have hb := C.2.1
  have hA : ∀ q, s.heap.size ≤ q → zA f s.heap.size q := fun q h => Or.inr h
  have hS : va_S (zA f s.heap.size) s.heap s.heap [] := va_S.rf
  have hl : lv_has ls 5 [(0, .ref o), (1, .int x), (2, .int y)] := hl
  obtain ⟨x_o, x_fa, x_ev, x_fi, x_al, x_ra, x_nu, x_fm, x_co, x_en, x_ke, x_kn, x_vq, hF, hP, hFq, hFk, hCn, hEa, hMa, hn60, hl12, hf6, hc60, hs40, hga, hgr, hln, hk5, hk4, hfi, hpi, har, hgf, hfz, hgc, hG, hsq, hei, hmi, kne, hca, hcr, hlk⟩ := id hI
  refine lv_aload_n hx hb dX7_tag_0 rfl (lv_at hl 0 rfl) ?_
  refine lv_iload_n hx hb dX7_tag_1 rfl (lv_at hl 1 rfl) ?_
  rcases z_findi x nf with ⟨jf, hjf, hvf⟩ | hvf
  · refine z_callVq (As := [.int x]) C hz hS hA hl (k_X7_findFamily_A l D cy f o fa fi nu nl fm nf co nc en ke lk gf fq jf x x_o x_fm hgf hvf hjf (by omega)) zyX7_findFamily mMX7_194 x_o zl7 rfl rfl (Nat.le_of_ble_eq_true rfl) ⟨Nat.le_of_ble_eq_true rfl, Nat.le_of_ble_eq_true rfl⟩ ⟨Nat.le_of_ble_eq_true rfl, Nat.le_of_ble_eq_true rfl⟩ dX7_tag_2 (fun r f1 H locs h2 hz hS => ?_)
    obtain ⟨rfl, k3⟩ := h2
    refine W.eq (g2 := F0 m 5 ls [.ref (fq jf)]) rfl ?_
    refine lv_astore_n (lv' := [(3, .ref (fq jf)), (0, .ref o), (1, .int x), (2, .int y)]) hx hb dX7_tag_5 rfl hl (by decide) rfl (fun ls hl => ?_)
    refine lv_aload_n hx hb dX7_tag_6 rfl (lv_at hl 1 rfl) ?_
    have a4 : f1 o = some (.inr (7, [.ref fa, .ref fi, .ref nu, .int (nI nl), .ref fm, .int (nI nf), .ref co, .int (nI nc), .ref en, .ref ke, .long lk])) := k3 _ _ x_o 
    refine z_get (v := .ref fi) C hz a4 zl7 mFX7_19 (by decide) rfl dX7_tag_7 ?_
    refine lv_iload_n hx hb dX7_tag_10 rfl (lv_at hl 3 rfl) ?_
    refine lv_i2l (v := y.toInt64) hx hb dX7_tag_11 rfl ?_
    rcases z_findi y nn with ⟨ja, hja, hva⟩ | hva
    · have a5 : f1 fi = some (.inr (5, [.ref al, .ref ra, .int (nI nn)])) := k3 _ _ x_fi 
      have a6 : f1 al = some (.inl (cy 3, 60, .inr (.inr (.inr (.inr ga))))) := k3 _ _ x_al 
      refine z_callVq (As := [.long y.toInt64]) C hz hS hA hl (k_X5_find_A l D cy f1 fi al ra ga nn fg y.toInt64 ja a5 a6 hn60 hga (by rw [hva, nI_l (by omega)]) hja) zyX5_find mMX7_130 a5 zl5 rfl rfl (Nat.le_of_ble_eq_true rfl) ⟨Nat.le_of_ble_eq_true rfl, Nat.le_of_ble_eq_true rfl⟩ ⟨Nat.le_of_ble_eq_true rfl, Nat.le_of_ble_eq_true rfl⟩ dX7_tag_12 (fun r f7 H locs h8 hz hS => ?_)
      obtain ⟨rfl, k9⟩ := h8
      refine W.eq (g2 := F0 m 15 ls [.ref (fg ja)]) rfl ?_
      refine lv_astore (lv' := [(4, .ref (fg ja)), (3, .ref (fq jf)), (0, .ref o), (1, .int x), (2, .int y)]) hx hb dX7_tag_15 hl (by decide) rfl (fun ls hl => ?_)
      refine lv_aload_n hx hb dX7_tag_17 rfl (lv_at hl 1 rfl) ?_
      refine lv_ifnull hx hb dX7_tag_18 ?_
      refine lv_aload hx hb dX7_tag_21 (lv_at hl 0 rfl) ?_
      refine lv_ifnonnull (tgt := 29) hx hb dX7_tag_23 (by decide) ?_
      refine lv_aload_n hx hb dX7_tag_29 rfl (lv_at hl 1 rfl) ?_
      refine lv_aload hx hb dX7_tag_30 (lv_at hl 0 rfl) ?_
      have F10 : ∀ i9 : Nat, i9 < nf → f1 (fq i9) = some (.inr (3, [.ref (fk i9), .int (nI (fz i9))])) := fun i9 h9 => k3 _ _ (hFq i9 h9) 
      have F11 : ∀ i9 : Nat, i9 < nf → f7 (fq i9) = some (.inr (3, [.ref (fk i9), .int (nI (fz i9))])) := fun i9 h9 => k9 _ _ (F10 i9 h9) 
      have a12 : f7 (fq jf) = some (.inr (3, [.ref (fk jf), .int (nI (fz jf))])) := F11 jf hjf
      have F13 : ∀ i9 : Nat, i9 < nf → f1 (fk i9) = some (.inl (cy 0, 4, .inl (fc i9))) := fun i9 h9 => k3 _ _ (hFk i9 h9) 
      have F14 : ∀ i9 : Nat, i9 < nf → f7 (fk i9) = some (.inl (cy 0, 4, .inl (fc i9))) := fun i9 h9 => k9 _ _ (F13 i9 h9) 
      have a15 : f7 (fk jf) = some (.inl (cy 0, 4, .inl (fc jf))) := F14 jf hjf
      have F16 : ∀ i9 : Nat, i9 < nn → f1 (fg i9) = some (.inr (4, [.int (kd i9), .ref (pt i9), .long (wg i9), .int (wd i9), .int (nI i9), .int (hs i9), .int (bf i9)])) := fun i9 h9 => k3 _ _ (hF i9 h9) 
      have F17 : ∀ i9 : Nat, i9 < nn → f7 (fg i9) = some (.inr (4, [.int (kd i9), .ref (pt i9), .long (wg i9), .int (wd i9), .int (nI i9), .int (hs i9), .int (bf i9)])) := fun i9 h9 => k9 _ _ (F16 i9 h9) 
      have a18 : f7 (fg ja) = some (.inr (4, [.int (kd ja), .ref (pt ja), .long (wg ja), .int (wd ja), .int (nI ja), .int (hs ja), .int (bf ja)])) := F17 ja hja
      refine z_callVi (As := [.ref (fg ja)]) C hz hS hA hl (k_X3_tagOf l D cy f7 (fq jf) (fk jf) (fz jf) (fc jf) (fg ja) (kd ja) (pt ja) (wg ja) (wd ja) (nI ja) (hs ja) (bf ja) a12 a15 a18 (hfz jf hjf)) zyX3_tagOf mMX7_198 a12 zl3 rfl rfl (Nat.le_of_ble_eq_true rfl) ⟨Nat.le_of_ble_eq_true rfl, Nat.le_of_ble_eq_true rfl⟩ ⟨Nat.le_of_ble_eq_true rfl, Nat.le_of_ble_eq_true rfl⟩ dX7_tag_32 (fun r21 f19 H locs h20 hz hS => ?_)
      have k22 := h20
      have a23 : f7 o = some (.inr (7, [.ref fa, .ref fi, .ref nu, .int (nI nl), .ref fm, .int (nI nf), .ref co, .int (nI nc), .ref en, .ref ke, .long lk])) := k9 _ _ a4 
      have a24 : f19 o = some (.inr (7, [.ref fa, .ref fi, .ref nu, .int (nI nl), .ref fm, .int (nI nf), .ref co, .int (nI nc), .ref en, .ref ke, .long lk])) := k22 _ _ a23 
      have a25 : f1 fa = some (.inr (2, [.int u1, .int u2, .int u3, .ref ev])) := k3 _ _ x_fa 
      have a26 : f7 fa = some (.inr (2, [.int u1, .int u2, .int u3, .ref ev])) := k9 _ _ a25 
      have a27 : f19 fa = some (.inr (2, [.int u1, .int u2, .int u3, .ref ev])) := k22 _ _ a26 
      have a28 : f1 ev = some (.inl (cy 0, 8, .inl gv)) := k3 _ _ x_ev 
      have a29 : f7 ev = some (.inl (cy 0, 8, .inl gv)) := k9 _ _ a28 
      have a30 : f19 ev = some (.inl (cy 0, 8, .inl gv)) := k22 _ _ a29 
      have a31 : f7 fi = some (.inr (5, [.ref al, .ref ra, .int (nI nn)])) := k9 _ _ a5 
      have a32 : f19 fi = some (.inr (5, [.ref al, .ref ra, .int (nI nn)])) := k22 _ _ a31 
      have a33 : f7 al = some (.inl (cy 3, 60, .inr (.inr (.inr (.inr ga))))) := k9 _ _ a6 
      have a34 : f19 al = some (.inl (cy 3, 60, .inr (.inr (.inr (.inr ga))))) := k22 _ _ a33 
      have a35 : f1 ra = some (.inl (cy 3, 60, .inr (.inr (.inr (.inr gr))))) := k3 _ _ x_ra 
      have a36 : f7 ra = some (.inl (cy 3, 60, .inr (.inr (.inr (.inr gr))))) := k9 _ _ a35 
      have a37 : f19 ra = some (.inl (cy 3, 60, .inr (.inr (.inr (.inr gr))))) := k22 _ _ a36 
      have a38 : f1 nu = some (.inl (cy 0, 12, .inl gu)) := k3 _ _ x_nu 
      have a39 : f7 nu = some (.inl (cy 0, 12, .inl gu)) := k9 _ _ a38 
      have a40 : f19 nu = some (.inl (cy 0, 12, .inl gu)) := k22 _ _ a39 
      have a41 : f1 fm = some (.inl (cy 4, 6, .inr (.inr (.inr (.inr gf))))) := k3 _ _ x_fm 
      have a42 : f7 fm = some (.inl (cy 4, 6, .inr (.inr (.inr (.inr gf))))) := k9 _ _ a41 
      have a43 : f19 fm = some (.inl (cy 4, 6, .inr (.inr (.inr (.inr gf))))) := k22 _ _ a42 
      have a44 : f1 co = some (.inl (cy 5, 60, .inr (.inr (.inr (.inr gc))))) := k3 _ _ x_co 
      have a45 : f7 co = some (.inl (cy 5, 60, .inr (.inr (.inr (.inr gc))))) := k9 _ _ a44 
      have a46 : f19 co = some (.inl (cy 5, 60, .inr (.inr (.inr (.inr gc))))) := k22 _ _ a45 
      have a47 : f1 en = some (.inl (cy 6, 4, .inr (.inr (.inr (.inr ge))))) := k3 _ _ x_en 
      have a48 : f7 en = some (.inl (cy 6, 4, .inr (.inr (.inr (.inr ge))))) := k9 _ _ a47 
      have a49 : f19 en = some (.inl (cy 6, 4, .inr (.inr (.inr (.inr ge))))) := k22 _ _ a48 
      have a50 : f1 ke = some (.inr (6, [.ref kn, .ref vq, .int (nI ks)])) := k3 _ _ x_ke 
      have a51 : f7 ke = some (.inr (6, [.ref kn, .ref vq, .int (nI ks)])) := k9 _ _ a50 
      have a52 : f19 ke = some (.inr (6, [.ref kn, .ref vq, .int (nI ks)])) := k22 _ _ a51 
      have a53 : f1 kn = some (.inl (cy 0, 40, .inl kk)) := k3 _ _ x_kn 
      have a54 : f7 kn = some (.inl (cy 0, 40, .inl kk)) := k9 _ _ a53 
      have a55 : f19 kn = some (.inl (cy 0, 40, .inl kk)) := k22 _ _ a54 
      have a56 : f1 vq = some (.inl (cy 0, 40, .inl kv)) := k3 _ _ x_vq 
      have a57 : f7 vq = some (.inl (cy 0, 40, .inl kv)) := k9 _ _ a56 
      have a58 : f19 vq = some (.inl (cy 0, 40, .inl kv)) := k22 _ _ a57 
      have F59 : ∀ i9 : Nat, i9 < nn → f19 (fg i9) = some (.inr (4, [.int (kd i9), .ref (pt i9), .long (wg i9), .int (wd i9), .int (nI i9), .int (hs i9), .int (bf i9)])) := fun i9 h9 => k22 _ _ (F17 i9 h9) 
      have F60 : ∀ i9 : Nat, i9 < nn → f1 (pt i9) = some (.inl (cy 1, (ln i9), .inr (.inl (pp i9)))) := fun i9 h9 => k3 _ _ (hP i9 h9) 
      have F61 : ∀ i9 : Nat, i9 < nn → f7 (pt i9) = some (.inl (cy 1, (ln i9), .inr (.inl (pp i9)))) := fun i9 h9 => k9 _ _ (F60 i9 h9) 
      have F62 : ∀ i9 : Nat, i9 < nn → f19 (pt i9) = some (.inl (cy 1, (ln i9), .inr (.inl (pp i9)))) := fun i9 h9 => k22 _ _ (F61 i9 h9) 
      have F63 : ∀ i9 : Nat, i9 < nf → f19 (fq i9) = some (.inr (3, [.ref (fk i9), .int (nI (fz i9))])) := fun i9 h9 => k22 _ _ (F11 i9 h9) 
      have F64 : ∀ i9 : Nat, i9 < nf → f19 (fk i9) = some (.inl (cy 0, 4, .inl (fc i9))) := fun i9 h9 => k22 _ _ (F14 i9 h9) 
      have F65 : ∀ i9 : Nat, i9 < nc → f1 (cn i9) = some (.inr (0, [.int (ce i9), .int (cm i9)])) := fun i9 h9 => k3 _ _ (hCn i9 h9) 
      have F66 : ∀ i9 : Nat, i9 < nc → f7 (cn i9) = some (.inr (0, [.int (ce i9), .int (cm i9)])) := fun i9 h9 => k9 _ _ (F65 i9 h9) 
      have F67 : ∀ i9 : Nat, i9 < nc → f19 (cn i9) = some (.inr (0, [.int (ce i9), .int (cm i9)])) := fun i9 h9 => k22 _ _ (F66 i9 h9) 
      have F68 : ∀ i9 : Nat, i9 < 4 → f1 (ea i9) = some (.inr (1, [.ref (ma i9), .int (nI (sq i9))])) := fun i9 h9 => k3 _ _ (hEa i9 h9) 
      have F69 : ∀ i9 : Nat, i9 < 4 → f7 (ea i9) = some (.inr (1, [.ref (ma i9), .int (nI (sq i9))])) := fun i9 h9 => k9 _ _ (F68 i9 h9) 
      have F70 : ∀ i9 : Nat, i9 < 4 → f19 (ea i9) = some (.inr (1, [.ref (ma i9), .int (nI (sq i9))])) := fun i9 h9 => k22 _ _ (F69 i9 h9) 
      have F71 : ∀ i9 : Nat, i9 < 4 → f1 (ma i9) = some (.inl (cy 0, 60, .inl (mb i9))) := fun i9 h9 => k3 _ _ (hMa i9 h9) 
      have F72 : ∀ i9 : Nat, i9 < 4 → f7 (ma i9) = some (.inl (cy 0, 60, .inl (mb i9))) := fun i9 h9 => k9 _ _ (F71 i9 h9) 
      have F73 : ∀ i9 : Nat, i9 < 4 → f19 (ma i9) = some (.inl (cy 0, 60, .inl (mb i9))) := fun i9 h9 => k22 _ _ (F72 i9 h9) 
      exact z_iret C hr rfl hz hS ⟨u1, u2, u3, gv, nl, gu, nn, ga, gr, fg, pt, kd, ln, pp, wg, wd, hs, bf, nf, gf, fq, fk, fz, fc, nc, gc, cn, ce, cm, sq, mb, ks, kk, kv, lk, rfl, rfl, ⟨a24, a27, a30, a32, a34, a37, a40, a43, a46, a49, a52, a55, a58, F59, F62, F63, F64, F67, F70, F73, hn60, hl12, hf6, hc60, hs40, hga, hgr, hln, hk5, hk4, hfi, hpi, har, hgf, hfz, hgc, hG, hsq, hei, hmi, kne, hca, hcr, hlk⟩⟩ (Nat.le_of_ble_eq_true rfl) (Nat.le_of_ble_eq_true rfl) dX7_tag_35
    · have a74 : f1 fi = some (.inr (5, [.ref al, .ref ra, .int (nI nn)])) := k3 _ _ x_fi 
      refine z_callVq (As := [.long y.toInt64]) C hz hS hA hl (k_X5_find_B l D cy f1 fi al ra nn y.toInt64 a74 hn60 (fun i9 h9 q9 => hva i9 h9 (z_toL (by omega) q9))) zyX5_find mMX7_130 a74 zl5 rfl rfl (Nat.le_of_ble_eq_true rfl) ⟨Nat.le_of_ble_eq_true rfl, Nat.le_of_ble_eq_true rfl⟩ ⟨Nat.le_of_ble_eq_true rfl, Nat.le_of_ble_eq_true rfl⟩ dX7_tag_12 (fun r f75 H locs h76 hz hS => ?_)
      obtain ⟨rfl, k77⟩ := h76
      refine W.eq (g2 := F0 m 15 ls [.null]) rfl ?_
      refine lv_astoreN (lv' := [(4, .null), (3, .ref (fq jf)), (0, .ref o), (1, .int x), (2, .int y)]) hx hb dX7_tag_15 hl (by decide) rfl (fun ls hl => ?_)
      refine lv_aload_n hx hb dX7_tag_17 rfl (lv_at hl 1 rfl) ?_
      refine lv_ifnull hx hb dX7_tag_18 ?_
      refine lv_aloadN hx hb dX7_tag_21 (lv_at hl 0 rfl) ?_
      refine lv_ifnonnullN hx hb dX7_tag_23 ?_
      refine lv_bipush (v := (-2)) hx hb dX7_tag_26 (by decide) ?_
      have a78 : f75 o = some (.inr (7, [.ref fa, .ref fi, .ref nu, .int (nI nl), .ref fm, .int (nI nf), .ref co, .int (nI nc), .ref en, .ref ke, .long lk])) := k77 _ _ a4 
      have a79 : f1 fa = some (.inr (2, [.int u1, .int u2, .int u3, .ref ev])) := k3 _ _ x_fa 
      have a80 : f75 fa = some (.inr (2, [.int u1, .int u2, .int u3, .ref ev])) := k77 _ _ a79 
      have a81 : f1 ev = some (.inl (cy 0, 8, .inl gv)) := k3 _ _ x_ev 
      have a82 : f75 ev = some (.inl (cy 0, 8, .inl gv)) := k77 _ _ a81 
      have a83 : f75 fi = some (.inr (5, [.ref al, .ref ra, .int (nI nn)])) := k77 _ _ a74 
      have a84 : f1 al = some (.inl (cy 3, 60, .inr (.inr (.inr (.inr ga))))) := k3 _ _ x_al 
      have a85 : f75 al = some (.inl (cy 3, 60, .inr (.inr (.inr (.inr ga))))) := k77 _ _ a84 
      have a86 : f1 ra = some (.inl (cy 3, 60, .inr (.inr (.inr (.inr gr))))) := k3 _ _ x_ra 
      have a87 : f75 ra = some (.inl (cy 3, 60, .inr (.inr (.inr (.inr gr))))) := k77 _ _ a86 
      have a88 : f1 nu = some (.inl (cy 0, 12, .inl gu)) := k3 _ _ x_nu 
      have a89 : f75 nu = some (.inl (cy 0, 12, .inl gu)) := k77 _ _ a88 
      have a90 : f1 fm = some (.inl (cy 4, 6, .inr (.inr (.inr (.inr gf))))) := k3 _ _ x_fm 
      have a91 : f75 fm = some (.inl (cy 4, 6, .inr (.inr (.inr (.inr gf))))) := k77 _ _ a90 
      have a92 : f1 co = some (.inl (cy 5, 60, .inr (.inr (.inr (.inr gc))))) := k3 _ _ x_co 
      have a93 : f75 co = some (.inl (cy 5, 60, .inr (.inr (.inr (.inr gc))))) := k77 _ _ a92 
      have a94 : f1 en = some (.inl (cy 6, 4, .inr (.inr (.inr (.inr ge))))) := k3 _ _ x_en 
      have a95 : f75 en = some (.inl (cy 6, 4, .inr (.inr (.inr (.inr ge))))) := k77 _ _ a94 
      have a96 : f1 ke = some (.inr (6, [.ref kn, .ref vq, .int (nI ks)])) := k3 _ _ x_ke 
      have a97 : f75 ke = some (.inr (6, [.ref kn, .ref vq, .int (nI ks)])) := k77 _ _ a96 
      have a98 : f1 kn = some (.inl (cy 0, 40, .inl kk)) := k3 _ _ x_kn 
      have a99 : f75 kn = some (.inl (cy 0, 40, .inl kk)) := k77 _ _ a98 
      have a100 : f1 vq = some (.inl (cy 0, 40, .inl kv)) := k3 _ _ x_vq 
      have a101 : f75 vq = some (.inl (cy 0, 40, .inl kv)) := k77 _ _ a100 
      have F102 : ∀ i9 : Nat, i9 < nn → f1 (fg i9) = some (.inr (4, [.int (kd i9), .ref (pt i9), .long (wg i9), .int (wd i9), .int (nI i9), .int (hs i9), .int (bf i9)])) := fun i9 h9 => k3 _ _ (hF i9 h9) 
      have F103 : ∀ i9 : Nat, i9 < nn → f75 (fg i9) = some (.inr (4, [.int (kd i9), .ref (pt i9), .long (wg i9), .int (wd i9), .int (nI i9), .int (hs i9), .int (bf i9)])) := fun i9 h9 => k77 _ _ (F102 i9 h9) 
      have F104 : ∀ i9 : Nat, i9 < nn → f1 (pt i9) = some (.inl (cy 1, (ln i9), .inr (.inl (pp i9)))) := fun i9 h9 => k3 _ _ (hP i9 h9) 
      have F105 : ∀ i9 : Nat, i9 < nn → f75 (pt i9) = some (.inl (cy 1, (ln i9), .inr (.inl (pp i9)))) := fun i9 h9 => k77 _ _ (F104 i9 h9) 
      have F106 : ∀ i9 : Nat, i9 < nf → f1 (fq i9) = some (.inr (3, [.ref (fk i9), .int (nI (fz i9))])) := fun i9 h9 => k3 _ _ (hFq i9 h9) 
      have F107 : ∀ i9 : Nat, i9 < nf → f75 (fq i9) = some (.inr (3, [.ref (fk i9), .int (nI (fz i9))])) := fun i9 h9 => k77 _ _ (F106 i9 h9) 
      have F108 : ∀ i9 : Nat, i9 < nf → f1 (fk i9) = some (.inl (cy 0, 4, .inl (fc i9))) := fun i9 h9 => k3 _ _ (hFk i9 h9) 
      have F109 : ∀ i9 : Nat, i9 < nf → f75 (fk i9) = some (.inl (cy 0, 4, .inl (fc i9))) := fun i9 h9 => k77 _ _ (F108 i9 h9) 
      have F110 : ∀ i9 : Nat, i9 < nc → f1 (cn i9) = some (.inr (0, [.int (ce i9), .int (cm i9)])) := fun i9 h9 => k3 _ _ (hCn i9 h9) 
      have F111 : ∀ i9 : Nat, i9 < nc → f75 (cn i9) = some (.inr (0, [.int (ce i9), .int (cm i9)])) := fun i9 h9 => k77 _ _ (F110 i9 h9) 
      have F112 : ∀ i9 : Nat, i9 < 4 → f1 (ea i9) = some (.inr (1, [.ref (ma i9), .int (nI (sq i9))])) := fun i9 h9 => k3 _ _ (hEa i9 h9) 
      have F113 : ∀ i9 : Nat, i9 < 4 → f75 (ea i9) = some (.inr (1, [.ref (ma i9), .int (nI (sq i9))])) := fun i9 h9 => k77 _ _ (F112 i9 h9) 
      have F114 : ∀ i9 : Nat, i9 < 4 → f1 (ma i9) = some (.inl (cy 0, 60, .inl (mb i9))) := fun i9 h9 => k3 _ _ (hMa i9 h9) 
      have F115 : ∀ i9 : Nat, i9 < 4 → f75 (ma i9) = some (.inl (cy 0, 60, .inl (mb i9))) := fun i9 h9 => k77 _ _ (F114 i9 h9) 
      exact z_iret C hr rfl hz hS ⟨u1, u2, u3, gv, nl, gu, nn, ga, gr, fg, pt, kd, ln, pp, wg, wd, hs, bf, nf, gf, fq, fk, fz, fc, nc, gc, cn, ce, cm, sq, mb, ks, kk, kv, lk, rfl, rfl, ⟨a78, a80, a82, a83, a85, a87, a89, a91, a93, a95, a97, a99, a101, F103, F105, F107, F109, F111, F113, F115, hn60, hl12, hf6, hc60, hs40, hga, hgr, hln, hk5, hk4, hfi, hpi, har, hgf, hfz, hgc, hG, hsq, hei, hmi, kne, hca, hcr, hlk⟩⟩ (Nat.le_of_ble_eq_true rfl) (Nat.le_of_ble_eq_true rfl) dX7_tag_28
  · refine z_callVq (As := [.int x]) C hz hS hA hl (k_X7_findFamily_B l D cy f o fa fi nu nl fm nf co nc en ke lk x x_o hvf (by omega)) zyX7_findFamily mMX7_194 x_o zl7 rfl rfl (Nat.le_of_ble_eq_true rfl) ⟨Nat.le_of_ble_eq_true rfl, Nat.le_of_ble_eq_true rfl⟩ ⟨Nat.le_of_ble_eq_true rfl, Nat.le_of_ble_eq_true rfl⟩ dX7_tag_2 (fun r f116 H locs h117 hz hS => ?_)
    obtain ⟨rfl, k118⟩ := h117
    refine W.eq (g2 := F0 m 5 ls [.null]) rfl ?_
    refine lv_astore_nN (lv' := [(3, .null), (0, .ref o), (1, .int x), (2, .int y)]) hx hb dX7_tag_5 rfl hl (by decide) rfl (fun ls hl => ?_)
    refine lv_aload_n hx hb dX7_tag_6 rfl (lv_at hl 1 rfl) ?_
    have a119 : f116 o = some (.inr (7, [.ref fa, .ref fi, .ref nu, .int (nI nl), .ref fm, .int (nI nf), .ref co, .int (nI nc), .ref en, .ref ke, .long lk])) := k118 _ _ x_o 
    refine z_get (v := .ref fi) C hz a119 zl7 mFX7_19 (by decide) rfl dX7_tag_7 ?_
    refine lv_iload_n hx hb dX7_tag_10 rfl (lv_at hl 3 rfl) ?_
    refine lv_i2l (v := y.toInt64) hx hb dX7_tag_11 rfl ?_
    rcases z_findi y nn with ⟨ja, hja, hva⟩ | hva
    · have a120 : f116 fi = some (.inr (5, [.ref al, .ref ra, .int (nI nn)])) := k118 _ _ x_fi 
      have a121 : f116 al = some (.inl (cy 3, 60, .inr (.inr (.inr (.inr ga))))) := k118 _ _ x_al 
      refine z_callVq (As := [.long y.toInt64]) C hz hS hA hl (k_X5_find_A l D cy f116 fi al ra ga nn fg y.toInt64 ja a120 a121 hn60 hga (by rw [hva, nI_l (by omega)]) hja) zyX5_find mMX7_130 a120 zl5 rfl rfl (Nat.le_of_ble_eq_true rfl) ⟨Nat.le_of_ble_eq_true rfl, Nat.le_of_ble_eq_true rfl⟩ ⟨Nat.le_of_ble_eq_true rfl, Nat.le_of_ble_eq_true rfl⟩ dX7_tag_12 (fun r f122 H locs h123 hz hS => ?_)
      obtain ⟨rfl, k124⟩ := h123
      refine W.eq (g2 := F0 m 15 ls [.ref (fg ja)]) rfl ?_
      refine lv_astore (lv' := [(4, .ref (fg ja)), (3, .null), (0, .ref o), (1, .int x), (2, .int y)]) hx hb dX7_tag_15 hl (by decide) rfl (fun ls hl => ?_)
      refine lv_aload_nN hx hb dX7_tag_17 rfl (lv_at hl 1 rfl) ?_
      refine lv_ifnullN (tgt := 26) hx hb dX7_tag_18 (by decide) ?_
      refine lv_bipush (v := (-2)) hx hb dX7_tag_26 (by decide) ?_
      have a125 : f122 o = some (.inr (7, [.ref fa, .ref fi, .ref nu, .int (nI nl), .ref fm, .int (nI nf), .ref co, .int (nI nc), .ref en, .ref ke, .long lk])) := k124 _ _ a119 
      have a126 : f116 fa = some (.inr (2, [.int u1, .int u2, .int u3, .ref ev])) := k118 _ _ x_fa 
      have a127 : f122 fa = some (.inr (2, [.int u1, .int u2, .int u3, .ref ev])) := k124 _ _ a126 
      have a128 : f116 ev = some (.inl (cy 0, 8, .inl gv)) := k118 _ _ x_ev 
      have a129 : f122 ev = some (.inl (cy 0, 8, .inl gv)) := k124 _ _ a128 
      have a130 : f122 fi = some (.inr (5, [.ref al, .ref ra, .int (nI nn)])) := k124 _ _ a120 
      have a131 : f122 al = some (.inl (cy 3, 60, .inr (.inr (.inr (.inr ga))))) := k124 _ _ a121 
      have a132 : f116 ra = some (.inl (cy 3, 60, .inr (.inr (.inr (.inr gr))))) := k118 _ _ x_ra 
      have a133 : f122 ra = some (.inl (cy 3, 60, .inr (.inr (.inr (.inr gr))))) := k124 _ _ a132 
      have a134 : f116 nu = some (.inl (cy 0, 12, .inl gu)) := k118 _ _ x_nu 
      have a135 : f122 nu = some (.inl (cy 0, 12, .inl gu)) := k124 _ _ a134 
      have a136 : f116 fm = some (.inl (cy 4, 6, .inr (.inr (.inr (.inr gf))))) := k118 _ _ x_fm 
      have a137 : f122 fm = some (.inl (cy 4, 6, .inr (.inr (.inr (.inr gf))))) := k124 _ _ a136 
      have a138 : f116 co = some (.inl (cy 5, 60, .inr (.inr (.inr (.inr gc))))) := k118 _ _ x_co 
      have a139 : f122 co = some (.inl (cy 5, 60, .inr (.inr (.inr (.inr gc))))) := k124 _ _ a138 
      have a140 : f116 en = some (.inl (cy 6, 4, .inr (.inr (.inr (.inr ge))))) := k118 _ _ x_en 
      have a141 : f122 en = some (.inl (cy 6, 4, .inr (.inr (.inr (.inr ge))))) := k124 _ _ a140 
      have a142 : f116 ke = some (.inr (6, [.ref kn, .ref vq, .int (nI ks)])) := k118 _ _ x_ke 
      have a143 : f122 ke = some (.inr (6, [.ref kn, .ref vq, .int (nI ks)])) := k124 _ _ a142 
      have a144 : f116 kn = some (.inl (cy 0, 40, .inl kk)) := k118 _ _ x_kn 
      have a145 : f122 kn = some (.inl (cy 0, 40, .inl kk)) := k124 _ _ a144 
      have a146 : f116 vq = some (.inl (cy 0, 40, .inl kv)) := k118 _ _ x_vq 
      have a147 : f122 vq = some (.inl (cy 0, 40, .inl kv)) := k124 _ _ a146 
      have F148 : ∀ i9 : Nat, i9 < nn → f116 (fg i9) = some (.inr (4, [.int (kd i9), .ref (pt i9), .long (wg i9), .int (wd i9), .int (nI i9), .int (hs i9), .int (bf i9)])) := fun i9 h9 => k118 _ _ (hF i9 h9) 
      have F149 : ∀ i9 : Nat, i9 < nn → f122 (fg i9) = some (.inr (4, [.int (kd i9), .ref (pt i9), .long (wg i9), .int (wd i9), .int (nI i9), .int (hs i9), .int (bf i9)])) := fun i9 h9 => k124 _ _ (F148 i9 h9) 
      have F150 : ∀ i9 : Nat, i9 < nn → f116 (pt i9) = some (.inl (cy 1, (ln i9), .inr (.inl (pp i9)))) := fun i9 h9 => k118 _ _ (hP i9 h9) 
      have F151 : ∀ i9 : Nat, i9 < nn → f122 (pt i9) = some (.inl (cy 1, (ln i9), .inr (.inl (pp i9)))) := fun i9 h9 => k124 _ _ (F150 i9 h9) 
      have F152 : ∀ i9 : Nat, i9 < nf → f116 (fq i9) = some (.inr (3, [.ref (fk i9), .int (nI (fz i9))])) := fun i9 h9 => k118 _ _ (hFq i9 h9) 
      have F153 : ∀ i9 : Nat, i9 < nf → f122 (fq i9) = some (.inr (3, [.ref (fk i9), .int (nI (fz i9))])) := fun i9 h9 => k124 _ _ (F152 i9 h9) 
      have F154 : ∀ i9 : Nat, i9 < nf → f116 (fk i9) = some (.inl (cy 0, 4, .inl (fc i9))) := fun i9 h9 => k118 _ _ (hFk i9 h9) 
      have F155 : ∀ i9 : Nat, i9 < nf → f122 (fk i9) = some (.inl (cy 0, 4, .inl (fc i9))) := fun i9 h9 => k124 _ _ (F154 i9 h9) 
      have F156 : ∀ i9 : Nat, i9 < nc → f116 (cn i9) = some (.inr (0, [.int (ce i9), .int (cm i9)])) := fun i9 h9 => k118 _ _ (hCn i9 h9) 
      have F157 : ∀ i9 : Nat, i9 < nc → f122 (cn i9) = some (.inr (0, [.int (ce i9), .int (cm i9)])) := fun i9 h9 => k124 _ _ (F156 i9 h9) 
      have F158 : ∀ i9 : Nat, i9 < 4 → f116 (ea i9) = some (.inr (1, [.ref (ma i9), .int (nI (sq i9))])) := fun i9 h9 => k118 _ _ (hEa i9 h9) 
      have F159 : ∀ i9 : Nat, i9 < 4 → f122 (ea i9) = some (.inr (1, [.ref (ma i9), .int (nI (sq i9))])) := fun i9 h9 => k124 _ _ (F158 i9 h9) 
      have F160 : ∀ i9 : Nat, i9 < 4 → f116 (ma i9) = some (.inl (cy 0, 60, .inl (mb i9))) := fun i9 h9 => k118 _ _ (hMa i9 h9) 
      have F161 : ∀ i9 : Nat, i9 < 4 → f122 (ma i9) = some (.inl (cy 0, 60, .inl (mb i9))) := fun i9 h9 => k124 _ _ (F160 i9 h9) 
      exact z_iret C hr rfl hz hS ⟨u1, u2, u3, gv, nl, gu, nn, ga, gr, fg, pt, kd, ln, pp, wg, wd, hs, bf, nf, gf, fq, fk, fz, fc, nc, gc, cn, ce, cm, sq, mb, ks, kk, kv, lk, rfl, rfl, ⟨a125, a127, a129, a130, a131, a133, a135, a137, a139, a141, a143, a145, a147, F149, F151, F153, F155, F157, F159, F161, hn60, hl12, hf6, hc60, hs40, hga, hgr, hln, hk5, hk4, hfi, hpi, har, hgf, hfz, hgc, hG, hsq, hei, hmi, kne, hca, hcr, hlk⟩⟩ (Nat.le_of_ble_eq_true rfl) (Nat.le_of_ble_eq_true rfl) dX7_tag_28
    · have a162 : f116 fi = some (.inr (5, [.ref al, .ref ra, .int (nI nn)])) := k118 _ _ x_fi 
      refine z_callVq (As := [.long y.toInt64]) C hz hS hA hl (k_X5_find_B l D cy f116 fi al ra nn y.toInt64 a162 hn60 (fun i9 h9 q9 => hva i9 h9 (z_toL (by omega) q9))) zyX5_find mMX7_130 a162 zl5 rfl rfl (Nat.le_of_ble_eq_true rfl) ⟨Nat.le_of_ble_eq_true rfl, Nat.le_of_ble_eq_true rfl⟩ ⟨Nat.le_of_ble_eq_true rfl, Nat.le_of_ble_eq_true rfl⟩ dX7_tag_12 (fun r f163 H locs h164 hz hS => ?_)
      obtain ⟨rfl, k165⟩ := h164
      refine W.eq (g2 := F0 m 15 ls [.null]) rfl ?_
      refine lv_astoreN (lv' := [(4, .null), (3, .null), (0, .ref o), (1, .int x), (2, .int y)]) hx hb dX7_tag_15 hl (by decide) rfl (fun ls hl => ?_)
      refine lv_aload_nN hx hb dX7_tag_17 rfl (lv_at hl 1 rfl) ?_
      refine lv_ifnullN (tgt := 26) hx hb dX7_tag_18 (by decide) ?_
      refine lv_bipush (v := (-2)) hx hb dX7_tag_26 (by decide) ?_
      have a166 : f163 o = some (.inr (7, [.ref fa, .ref fi, .ref nu, .int (nI nl), .ref fm, .int (nI nf), .ref co, .int (nI nc), .ref en, .ref ke, .long lk])) := k165 _ _ a119 
      have a167 : f116 fa = some (.inr (2, [.int u1, .int u2, .int u3, .ref ev])) := k118 _ _ x_fa 
      have a168 : f163 fa = some (.inr (2, [.int u1, .int u2, .int u3, .ref ev])) := k165 _ _ a167 
      have a169 : f116 ev = some (.inl (cy 0, 8, .inl gv)) := k118 _ _ x_ev 
      have a170 : f163 ev = some (.inl (cy 0, 8, .inl gv)) := k165 _ _ a169 
      have a171 : f163 fi = some (.inr (5, [.ref al, .ref ra, .int (nI nn)])) := k165 _ _ a162 
      have a172 : f116 al = some (.inl (cy 3, 60, .inr (.inr (.inr (.inr ga))))) := k118 _ _ x_al 
      have a173 : f163 al = some (.inl (cy 3, 60, .inr (.inr (.inr (.inr ga))))) := k165 _ _ a172 
      have a174 : f116 ra = some (.inl (cy 3, 60, .inr (.inr (.inr (.inr gr))))) := k118 _ _ x_ra 
      have a175 : f163 ra = some (.inl (cy 3, 60, .inr (.inr (.inr (.inr gr))))) := k165 _ _ a174 
      have a176 : f116 nu = some (.inl (cy 0, 12, .inl gu)) := k118 _ _ x_nu 
      have a177 : f163 nu = some (.inl (cy 0, 12, .inl gu)) := k165 _ _ a176 
      have a178 : f116 fm = some (.inl (cy 4, 6, .inr (.inr (.inr (.inr gf))))) := k118 _ _ x_fm 
      have a179 : f163 fm = some (.inl (cy 4, 6, .inr (.inr (.inr (.inr gf))))) := k165 _ _ a178 
      have a180 : f116 co = some (.inl (cy 5, 60, .inr (.inr (.inr (.inr gc))))) := k118 _ _ x_co 
      have a181 : f163 co = some (.inl (cy 5, 60, .inr (.inr (.inr (.inr gc))))) := k165 _ _ a180 
      have a182 : f116 en = some (.inl (cy 6, 4, .inr (.inr (.inr (.inr ge))))) := k118 _ _ x_en 
      have a183 : f163 en = some (.inl (cy 6, 4, .inr (.inr (.inr (.inr ge))))) := k165 _ _ a182 
      have a184 : f116 ke = some (.inr (6, [.ref kn, .ref vq, .int (nI ks)])) := k118 _ _ x_ke 
      have a185 : f163 ke = some (.inr (6, [.ref kn, .ref vq, .int (nI ks)])) := k165 _ _ a184 
      have a186 : f116 kn = some (.inl (cy 0, 40, .inl kk)) := k118 _ _ x_kn 
      have a187 : f163 kn = some (.inl (cy 0, 40, .inl kk)) := k165 _ _ a186 
      have a188 : f116 vq = some (.inl (cy 0, 40, .inl kv)) := k118 _ _ x_vq 
      have a189 : f163 vq = some (.inl (cy 0, 40, .inl kv)) := k165 _ _ a188 
      have F190 : ∀ i9 : Nat, i9 < nn → f116 (fg i9) = some (.inr (4, [.int (kd i9), .ref (pt i9), .long (wg i9), .int (wd i9), .int (nI i9), .int (hs i9), .int (bf i9)])) := fun i9 h9 => k118 _ _ (hF i9 h9) 
      have F191 : ∀ i9 : Nat, i9 < nn → f163 (fg i9) = some (.inr (4, [.int (kd i9), .ref (pt i9), .long (wg i9), .int (wd i9), .int (nI i9), .int (hs i9), .int (bf i9)])) := fun i9 h9 => k165 _ _ (F190 i9 h9) 
      have F192 : ∀ i9 : Nat, i9 < nn → f116 (pt i9) = some (.inl (cy 1, (ln i9), .inr (.inl (pp i9)))) := fun i9 h9 => k118 _ _ (hP i9 h9) 
      have F193 : ∀ i9 : Nat, i9 < nn → f163 (pt i9) = some (.inl (cy 1, (ln i9), .inr (.inl (pp i9)))) := fun i9 h9 => k165 _ _ (F192 i9 h9) 
      have F194 : ∀ i9 : Nat, i9 < nf → f116 (fq i9) = some (.inr (3, [.ref (fk i9), .int (nI (fz i9))])) := fun i9 h9 => k118 _ _ (hFq i9 h9) 
      have F195 : ∀ i9 : Nat, i9 < nf → f163 (fq i9) = some (.inr (3, [.ref (fk i9), .int (nI (fz i9))])) := fun i9 h9 => k165 _ _ (F194 i9 h9) 
      have F196 : ∀ i9 : Nat, i9 < nf → f116 (fk i9) = some (.inl (cy 0, 4, .inl (fc i9))) := fun i9 h9 => k118 _ _ (hFk i9 h9) 
      have F197 : ∀ i9 : Nat, i9 < nf → f163 (fk i9) = some (.inl (cy 0, 4, .inl (fc i9))) := fun i9 h9 => k165 _ _ (F196 i9 h9) 
      have F198 : ∀ i9 : Nat, i9 < nc → f116 (cn i9) = some (.inr (0, [.int (ce i9), .int (cm i9)])) := fun i9 h9 => k118 _ _ (hCn i9 h9) 
      have F199 : ∀ i9 : Nat, i9 < nc → f163 (cn i9) = some (.inr (0, [.int (ce i9), .int (cm i9)])) := fun i9 h9 => k165 _ _ (F198 i9 h9) 
      have F200 : ∀ i9 : Nat, i9 < 4 → f116 (ea i9) = some (.inr (1, [.ref (ma i9), .int (nI (sq i9))])) := fun i9 h9 => k118 _ _ (hEa i9 h9) 
      have F201 : ∀ i9 : Nat, i9 < 4 → f163 (ea i9) = some (.inr (1, [.ref (ma i9), .int (nI (sq i9))])) := fun i9 h9 => k165 _ _ (F200 i9 h9) 
      have F202 : ∀ i9 : Nat, i9 < 4 → f116 (ma i9) = some (.inl (cy 0, 60, .inl (mb i9))) := fun i9 h9 => k118 _ _ (hMa i9 h9) 
      have F203 : ∀ i9 : Nat, i9 < 4 → f163 (ma i9) = some (.inl (cy 0, 60, .inl (mb i9))) := fun i9 h9 => k165 _ _ (F202 i9 h9) 
      exact z_iret C hr rfl hz hS ⟨u1, u2, u3, gv, nl, gu, nn, ga, gr, fg, pt, kd, ln, pp, wg, wd, hs, bf, nf, gf, fq, fk, fz, fc, nc, gc, cn, ce, cm, sq, mb, ks, kk, kv, lk, rfl, rfl, ⟨a166, a168, a170, a171, a173, a175, a177, a179, a181, a183, a185, a187, a189, F191, F193, F195, F197, F199, F201, F203, hn60, hl12, hf6, hc60, hs40, hga, hgr, hln, hk5, hk4, hfi, hpi, har, hgf, hfz, hgc, hG, hsq, hei, hmi, kne, hca, hcr, hlk⟩⟩ (Nat.le_of_ble_eq_true rfl) (Nat.le_of_ble_eq_true rfl) dX7_tag_28
abbrev rmX7_tagged : Room := { frames := 2, cells := 0, slots := 0, locals := 44 }
set_option maxHeartbeats 4000000 in
set_option maxRecDepth 100000 in
theorem k_X7_tagged (l : Launch) (D : va_G) (cy : Nat → ClassId) (f : zM) (o : Nat) (fa : Nat) (fi : Nat) (nu : Nat) (fm : Nat) (co : Nat) (en : Nat) (ke : Nat) (ev : Nat) (al : Nat) (ra : Nat) (kn : Nat) (vq : Nat) (ge : Nat → Option Nat) (ea : Nat → Nat) (ma : Nat → Nat) (u1 : Int32) (u2 : Int32) (u3 : Int32) (gv : Nat → Int32) (nl : Nat) (gu : Nat → Int32) (nn : Nat) (ga : Nat → Option Nat) (gr : Nat → Option Nat) (fg : Nat → Nat) (pt : Nat → Nat) (kd : Nat → Int32) (ln : Nat → Nat) (pp : Nat → Nat → Int64) (wg : Nat → Int64) (wd : Nat → Int32) (hs : Nat → Int32) (bf : Nat → Int32) (nf : Nat) (gf : Nat → Option Nat) (fq : Nat → Nat) (fk : Nat → Nat) (fz : Nat → Nat) (fc : Nat → Nat → Int32) (nc : Nat) (gc : Nat → Option Nat) (cn : Nat → Nat) (ce : Nat → Int32) (cm : Nat → Int32) (sq : Nat → Nat) (mb : Nat → Nat → Int32) (ks : Nat) (kk : Nat → Int32) (kv : Nat → Int32) (lk : Int64) (x : Int32) (y : Int32)    (hI : zIX cy f o fa fi nu fm co en ke ev al ra kn vq ge ea ma u1 u2 u3 gv nl gu nn ga gr fg pt kd ln pp wg wd hs bf nf gf fq fk fz fc nc gc cn ce cm sq mb ks kk kv lk) : zCi l D cy yX7_tagged cX7_tagged 7 (Option.some Jvm.ClassFile.FieldType.int) rmX7_tagged [.ref o, .int x, .int y] f (fun (r : Int32) (f1 : zM) => ∃ (u11 : Int32) (u21 : Int32) (u31 : Int32) (gv1 : Nat → Int32) (nl1 : Nat) (gu1 : Nat → Int32) (nn1 : Nat) (ga1 : Nat → Option Nat) (gr1 : Nat → Option Nat) (fg1 : Nat → Nat) (pt1 : Nat → Nat) (kd1 : Nat → Int32) (ln1 : Nat → Nat) (pp1 : Nat → Nat → Int64) (wg1 : Nat → Int64) (wd1 : Nat → Int32) (hs1 : Nat → Int32) (bf1 : Nat → Int32) (nf1 : Nat) (gf1 : Nat → Option Nat) (fq1 : Nat → Nat) (fk1 : Nat → Nat) (fz1 : Nat → Nat) (fc1 : Nat → Nat → Int32) (nc1 : Nat) (gc1 : Nat → Option Nat) (cn1 : Nat → Nat) (ce1 : Nat → Int32) (cm1 : Nat → Int32) (sq1 : Nat → Nat) (mb1 : Nat → Nat → Int32) (ks1 : Nat) (kk1 : Nat → Int32) (kv1 : Nat → Int32) (lk1 : Int64), (nl1 = nl) ∧ (nn1 = nn) ∧ zIX cy f1 o fa fi nu fm co en ke ev al ra kn vq ge ea ma u11 u21 u31 gv1 nl1 gu1 nn1 ga1 gr1 fg1 pt1 kd1 ln1 pp1 wg1 wd1 hs1 bf1 nf1 gf1 fq1 fk1 fz1 fc1 nc1 gc1 cn1 ce1 cm1 sq1 mb1 ks1 kk1 kv1 lk1) := by
  intro sz
  refine z_body (by decide +kernel) (Nat.le_of_ble_eq_true rfl) ?_
  intro p e s m below meth c ls C hr hin hsz hz hl
  subst hsz
  have hx := C.1
  have hb := C.2.1
  have hA : ∀ q, s.heap.size ≤ q → zA f s.heap.size q := fun q h => Or.inr h
  have hS : va_S (zA f s.heap.size) s.heap s.heap [] := va_S.rf
  have hl : lv_has ls 7 [(0, .ref o), (1, .int x), (2, .int y)] := hl
  obtain ⟨x_o, x_fa, x_ev, x_fi, x_al, x_ra, x_nu, x_fm, x_co, x_en, x_ke, x_kn, x_vq, hF, hP, hFq, hFk, hCn, hEa, hMa, hn60, hl12, hf6, hc60, hs40, hga, hgr, hln, hk5, hk4, hfi, hpi, har, hgf, hfz, hgc, hG, hsq, hei, hmi, kne, hca, hcr, hlk⟩ := id hI
  refine lv_aload_n hx hb dX7_tagged_0 rfl (lv_at hl 0 rfl) ?_
  refine lv_iload_n hx hb dX7_tagged_1 rfl (lv_at hl 1 rfl) ?_
  rcases z_findi x nf with ⟨jf, hjf, hvf⟩ | hvf
  · refine z_callVq (As := [.int x]) C hz hS hA hl (k_X7_findFamily_A l D cy f o fa fi nu nl fm nf co nc en ke lk gf fq jf x x_o x_fm hgf hvf hjf (by omega)) zyX7_findFamily mMX7_194 x_o zl7 rfl rfl (Nat.le_of_ble_eq_true rfl) ⟨Nat.le_of_ble_eq_true rfl, Nat.le_of_ble_eq_true rfl⟩ ⟨Nat.le_of_ble_eq_true rfl, Nat.le_of_ble_eq_true rfl⟩ dX7_tagged_2 (fun r f1 H locs h2 hz hS => ?_)
    obtain ⟨rfl, k3⟩ := h2
    refine W.eq (g2 := F0 m 5 ls [.ref (fq jf)]) rfl ?_
    refine lv_astore_n (lv' := [(3, .ref (fq jf)), (0, .ref o), (1, .int x), (2, .int y)]) hx hb dX7_tagged_5 rfl hl (by decide) rfl (fun ls hl => ?_)
    refine lv_aload_n hx hb dX7_tagged_6 rfl (lv_at hl 0 rfl) ?_
    refine lv_ifnull hx hb dX7_tagged_7 ?_
    refine lv_iload_n hx hb dX7_tagged_10 rfl (lv_at hl 3 rfl) ?_
    refine lv_iconst (v := (-1)) hx hb dX7_tagged_11 (by decide) ?_
    refine lv_icmp_lt (tgt := 20) hx hb dX7_tagged_12 (by decide) (fun c4 => ?_) (fun c4 => ?_)
    · refine lv_bipush (v := (-2)) hx hb dX7_tagged_20 (by decide) ?_
      have a5 : f1 o = some (.inr (7, [.ref fa, .ref fi, .ref nu, .int (nI nl), .ref fm, .int (nI nf), .ref co, .int (nI nc), .ref en, .ref ke, .long lk])) := k3 _ _ x_o 
      have a6 : f1 fa = some (.inr (2, [.int u1, .int u2, .int u3, .ref ev])) := k3 _ _ x_fa 
      have a7 : f1 ev = some (.inl (cy 0, 8, .inl gv)) := k3 _ _ x_ev 
      have a8 : f1 fi = some (.inr (5, [.ref al, .ref ra, .int (nI nn)])) := k3 _ _ x_fi 
      have a9 : f1 al = some (.inl (cy 3, 60, .inr (.inr (.inr (.inr ga))))) := k3 _ _ x_al 
      have a10 : f1 ra = some (.inl (cy 3, 60, .inr (.inr (.inr (.inr gr))))) := k3 _ _ x_ra 
      have a11 : f1 nu = some (.inl (cy 0, 12, .inl gu)) := k3 _ _ x_nu 
      have a12 : f1 fm = some (.inl (cy 4, 6, .inr (.inr (.inr (.inr gf))))) := k3 _ _ x_fm 
      have a13 : f1 co = some (.inl (cy 5, 60, .inr (.inr (.inr (.inr gc))))) := k3 _ _ x_co 
      have a14 : f1 en = some (.inl (cy 6, 4, .inr (.inr (.inr (.inr ge))))) := k3 _ _ x_en 
      have a15 : f1 ke = some (.inr (6, [.ref kn, .ref vq, .int (nI ks)])) := k3 _ _ x_ke 
      have a16 : f1 kn = some (.inl (cy 0, 40, .inl kk)) := k3 _ _ x_kn 
      have a17 : f1 vq = some (.inl (cy 0, 40, .inl kv)) := k3 _ _ x_vq 
      have F18 : ∀ i9 : Nat, i9 < nn → f1 (fg i9) = some (.inr (4, [.int (kd i9), .ref (pt i9), .long (wg i9), .int (wd i9), .int (nI i9), .int (hs i9), .int (bf i9)])) := fun i9 h9 => k3 _ _ (hF i9 h9) 
      have F19 : ∀ i9 : Nat, i9 < nn → f1 (pt i9) = some (.inl (cy 1, (ln i9), .inr (.inl (pp i9)))) := fun i9 h9 => k3 _ _ (hP i9 h9) 
      have F20 : ∀ i9 : Nat, i9 < nf → f1 (fq i9) = some (.inr (3, [.ref (fk i9), .int (nI (fz i9))])) := fun i9 h9 => k3 _ _ (hFq i9 h9) 
      have F21 : ∀ i9 : Nat, i9 < nf → f1 (fk i9) = some (.inl (cy 0, 4, .inl (fc i9))) := fun i9 h9 => k3 _ _ (hFk i9 h9) 
      have F22 : ∀ i9 : Nat, i9 < nc → f1 (cn i9) = some (.inr (0, [.int (ce i9), .int (cm i9)])) := fun i9 h9 => k3 _ _ (hCn i9 h9) 
      have F23 : ∀ i9 : Nat, i9 < 4 → f1 (ea i9) = some (.inr (1, [.ref (ma i9), .int (nI (sq i9))])) := fun i9 h9 => k3 _ _ (hEa i9 h9) 
      have F24 : ∀ i9 : Nat, i9 < 4 → f1 (ma i9) = some (.inl (cy 0, 60, .inl (mb i9))) := fun i9 h9 => k3 _ _ (hMa i9 h9) 
      exact z_iret C hr rfl hz hS ⟨u1, u2, u3, gv, nl, gu, nn, ga, gr, fg, pt, kd, ln, pp, wg, wd, hs, bf, nf, gf, fq, fk, fz, fc, nc, gc, cn, ce, cm, sq, mb, ks, kk, kv, lk, rfl, rfl, ⟨a5, a6, a7, a8, a9, a10, a11, a12, a13, a14, a15, a16, a17, F18, F19, F20, F21, F22, F23, F24, hn60, hl12, hf6, hc60, hs40, hga, hgr, hln, hk5, hk4, hfi, hpi, har, hgf, hfz, hgc, hG, hsq, hei, hmi, kne, hca, hcr, hlk⟩⟩ (Nat.le_of_ble_eq_true rfl) (Nat.le_of_ble_eq_true rfl) dX7_tagged_22
    · refine lv_iload_n hx hb dX7_tagged_15 rfl (lv_at hl 3 rfl) ?_
      refine lv_iconst (v := 4) hx hb dX7_tagged_16 (by decide) ?_
      refine lv_icmp_lt (tgt := 23) hx hb dX7_tagged_17 (by decide) (fun c25 => ?_) (fun c25 => ?_)
      · refine lv_iconst (v := 0) hx hb dX7_tagged_23 (by decide) ?_
        refine lv_istore (lv' := [(4, .int 0), (3, .ref (fq jf)), (0, .ref o), (1, .int x), (2, .int y)]) hx hb dX7_tagged_24 hl (by decide) rfl (fun ls hl => ?_)
        refine lv_iconst (v := 0) hx hb dX7_tagged_26 (by decide) ?_
        refine lv_istore (lv' := [(5, .int 0), (4, .int 0), (3, .ref (fq jf)), (0, .ref o), (1, .int x), (2, .int y)]) hx hb dX7_tagged_27 hl (by decide) rfl (fun ls hl => ?_)
        have lp26 : ∀ (n : Nat) (i : Nat) (tt : Int32) (fL27 : zM) (H : Heap) (locs : List Loc) (ls : Array Slot), (nn - i) < n → (i ≤ nn) → fL27 o = some (.inr (7, [.ref fa, .ref fi, .ref nu, .int (nI nl), .ref fm, .int (nI nf), .ref co, .int (nI nc), .ref en, .ref ke, .long lk])) → fL27 fa = some (.inr (2, [.int u1, .int u2, .int u3, .ref ev])) → fL27 ev = some (.inl (cy 0, 8, .inl gv)) → fL27 fi = some (.inr (5, [.ref al, .ref ra, .int (nI nn)])) → fL27 al = some (.inl (cy 3, 60, .inr (.inr (.inr (.inr ga))))) → fL27 ra = some (.inl (cy 3, 60, .inr (.inr (.inr (.inr gr))))) → fL27 nu = some (.inl (cy 0, 12, .inl gu)) → fL27 fm = some (.inl (cy 4, 6, .inr (.inr (.inr (.inr gf))))) → fL27 co = some (.inl (cy 5, 60, .inr (.inr (.inr (.inr gc))))) → fL27 en = some (.inl (cy 6, 4, .inr (.inr (.inr (.inr ge))))) → fL27 ke = some (.inr (6, [.ref kn, .ref vq, .int (nI ks)])) → fL27 kn = some (.inl (cy 0, 40, .inl kk)) → fL27 vq = some (.inl (cy 0, 40, .inl kv)) → (∀ i9 : Nat, i9 < nn → fL27 (fg i9) = some (.inr (4, [.int (kd i9), .ref (pt i9), .long (wg i9), .int (wd i9), .int (nI i9), .int (hs i9), .int (bf i9)]))) → (∀ i9 : Nat, i9 < nn → fL27 (pt i9) = some (.inl (cy 1, (ln i9), .inr (.inl (pp i9))))) → (∀ i9 : Nat, i9 < nf → fL27 (fq i9) = some (.inr (3, [.ref (fk i9), .int (nI (fz i9))]))) → (∀ i9 : Nat, i9 < nf → fL27 (fk i9) = some (.inl (cy 0, 4, .inl (fc i9)))) → (∀ i9 : Nat, i9 < nc → fL27 (cn i9) = some (.inr (0, [.int (ce i9), .int (cm i9)]))) → (∀ i9 : Nat, i9 < 4 → fL27 (ea i9) = some (.inr (1, [.ref (ma i9), .int (nI (sq i9))]))) → (∀ i9 : Nat, i9 < 4 → fL27 (ma i9) = some (.inl (cy 0, 60, .inl (mb i9)))) → (∀ (b : Nat) (e : va_E), f1 b = some e → fL27 b = some e) → zH D (zA f s.heap.size) fL27 H → va_S (zA f s.heap.size) s.heap H locs → lv_has ls 7 [(0, .ref o), (2, .int y), (3, .ref (fq jf)), (4, .int tt), (5, .int (nI i))] → W p l e rmX7_tagged s m ([.ref o, .int x, .int y] : List Value).toArray below meth c H locs 0 0 (MQ below (va_Qi (fun (r : Int32) (f1 : zM) => ∃ (u11 : Int32) (u21 : Int32) (u31 : Int32) (gv1 : Nat → Int32) (nl1 : Nat) (gu1 : Nat → Int32) (nn1 : Nat) (ga1 : Nat → Option Nat) (gr1 : Nat → Option Nat) (fg1 : Nat → Nat) (pt1 : Nat → Nat) (kd1 : Nat → Int32) (ln1 : Nat → Nat) (pp1 : Nat → Nat → Int64) (wg1 : Nat → Int64) (wd1 : Nat → Int32) (hs1 : Nat → Int32) (bf1 : Nat → Int32) (nf1 : Nat) (gf1 : Nat → Option Nat) (fq1 : Nat → Nat) (fk1 : Nat → Nat) (fz1 : Nat → Nat) (fc1 : Nat → Nat → Int32) (nc1 : Nat) (gc1 : Nat → Option Nat) (cn1 : Nat → Nat) (ce1 : Nat → Int32) (cm1 : Nat → Int32) (sq1 : Nat → Nat) (mb1 : Nat → Nat → Int32) (ks1 : Nat) (kk1 : Nat → Int32) (kv1 : Nat → Int32) (lk1 : Int64), (nl1 = nl) ∧ (nn1 = nn) ∧ zIX cy f1 o fa fi nu fm co en ke ev al ra kn vq ge ea ma u11 u21 u31 gv1 nl1 gu1 nn1 ga1 gr1 fg1 pt1 kd1 ln1 pp1 wg1 wd1 hs1 bf1 nf1 gf1 fq1 fk1 fz1 fc1 nc1 gc1 cn1 ce1 cm1 sq1 mb1 ks1 kk1 kv1 lk1) (zB D f s.heap.size) (zA f s.heap.size)) ([.ref o, .int x, .int y] : List Value).toArray s rmX7_tagged.cells rmX7_tagged.slots (zA f s.heap.size)) (F0 m 29 ls []) := by
          intro n
          induction n with
          | zero => intro i tt fL27 H locs ls hmz; exact absurd hmz (Nat.not_lt_zero _)
          | succ n ih =>
            intro i tt fL27 H locs ls hmz hi a29 a30 a31 a32 a33 a34 a35 a36 a37 a38 a39 a40 a41 F42 F43 F44 F45 F46 F47 F48 k28 hz hS hl
            refine lv_iload hx hb dX7_tagged_29 (lv_at hl 4 rfl) ?_
            refine lv_aload_n hx hb dX7_tagged_31 rfl (lv_at hl 0 rfl) ?_
            refine z_get (v := .ref fi) C hz a29 zl7 mFX7_19 (by decide) rfl dX7_tagged_32 ?_
            refine z_getN (v := .int (nI nn)) C hz a32 zl5 mFNX7_201 (by decide) rfl dX7_tagged_35 ?_
            refine lv_icmp_ge (tgt := 77) hx hb dX7_tagged_38 (by decide) (fun c49 => ?_) (fun c49 => ?_)
            · replace c49 : (nn ≤ i) := (nI_leI (a := nn) (b := i) (by omega) (by omega)).mp c49
              refine lv_iload hx hb dX7_tagged_77 (lv_at hl 3 rfl) ?_
              exact z_iret C hr rfl hz hS ⟨u1, u2, u3, gv, nl, gu, nn, ga, gr, fg, pt, kd, ln, pp, wg, wd, hs, bf, nf, gf, fq, fk, fz, fc, nc, gc, cn, ce, cm, sq, mb, ks, kk, kv, lk, rfl, rfl, ⟨a29, a30, a31, a32, a33, a34, a35, a36, a37, a38, a39, a40, a41, F42, F43, F44, F45, F46, F47, F48, hn60, hl12, hf6, hc60, hs40, hga, hgr, hln, hk5, hk4, hfi, hpi, har, hgf, hfz, hgc, hG, hsq, hei, hmi, kne, hca, hcr, hlk⟩⟩ (Nat.le_of_ble_eq_true rfl) (Nat.le_of_ble_eq_true rfl) dX7_tagged_79
            · replace c49 : ¬ (nn ≤ i) := fun h => c49 ((nI_leI (a := nn) (b := i) (by omega) (by omega)).mpr h)
              refine lv_aload_n hx hb dX7_tagged_41 rfl (lv_at hl 0 rfl) ?_
              refine z_get (v := .ref fi) C hz a29 zl7 mFX7_19 (by decide) rfl dX7_tagged_42 ?_
              refine lv_iload hx hb dX7_tagged_45 (lv_at hl 4 rfl) ?_
              refine lv_i2l (v := (nI i).toInt64) hx hb dX7_tagged_47 rfl ?_
              refine z_callVq (As := [.long ((nI i).toInt64)]) C hz hS hA hl (k_X5_find_A l D cy fL27 fi al ra ga nn fg ((nI i).toInt64) i a32 a33 hn60 hga (nI_l (by omega)) (by omega)) zyX5_find mMX7_130 a32 zl5 rfl rfl (Nat.le_of_ble_eq_true rfl) ⟨Nat.le_of_ble_eq_true rfl, Nat.le_of_ble_eq_true rfl⟩ ⟨Nat.le_of_ble_eq_true rfl, Nat.le_of_ble_eq_true rfl⟩ dX7_tagged_48 (fun r f50 H locs h51 hz hS => ?_)
              obtain ⟨rfl, k52⟩ := h51
              refine W.eq (g2 := F0 m 51 ls [.ref (fg i)]) rfl ?_
              refine lv_astore (lv' := [(6, .ref (fg i)), (0, .ref o), (2, .int y), (3, .ref (fq jf)), (4, .int tt), (5, .int (nI i))]) hx hb dX7_tagged_51 hl (by decide) rfl (fun ls hl => ?_)
              refine lv_aload hx hb dX7_tagged_53 (lv_at hl 0 rfl) ?_
              refine lv_ifnull hx hb dX7_tagged_55 ?_
              refine lv_aload_n hx hb dX7_tagged_58 rfl (lv_at hl 3 rfl) ?_
              refine lv_aload hx hb dX7_tagged_59 (lv_at hl 0 rfl) ?_
              have F53 : ∀ i9 : Nat, i9 < nf → f50 (fq i9) = some (.inr (3, [.ref (fk i9), .int (nI (fz i9))])) := fun i9 h9 => k52 _ _ (F44 i9 h9) 
              have a54 : f50 (fq jf) = some (.inr (3, [.ref (fk jf), .int (nI (fz jf))])) := F53 jf hjf
              have F55 : ∀ i9 : Nat, i9 < nf → f50 (fk i9) = some (.inl (cy 0, 4, .inl (fc i9))) := fun i9 h9 => k52 _ _ (F45 i9 h9) 
              have a56 : f50 (fk jf) = some (.inl (cy 0, 4, .inl (fc jf))) := F55 jf hjf
              have F57 : ∀ i9 : Nat, i9 < nn → f50 (fg i9) = some (.inr (4, [.int (kd i9), .ref (pt i9), .long (wg i9), .int (wd i9), .int (nI i9), .int (hs i9), .int (bf i9)])) := fun i9 h9 => k52 _ _ (F42 i9 h9) 
              have a58 : f50 (fg i) = some (.inr (4, [.int (kd i), .ref (pt i), .long (wg i), .int (wd i), .int (nI i), .int (hs i), .int (bf i)])) := F57 i (show i < nn by omega)
              refine z_callVi (As := [.ref (fg i)]) C hz hS hA hl (k_X3_tagOf l D cy f50 (fq jf) (fk jf) (fz jf) (fc jf) (fg i) (kd i) (pt i) (wg i) (wd i) (nI i) (hs i) (bf i) a54 a56 a58 (hfz jf hjf)) zyX3_tagOf mMX7_198 a54 zl3 rfl rfl (Nat.le_of_ble_eq_true rfl) ⟨Nat.le_of_ble_eq_true rfl, Nat.le_of_ble_eq_true rfl⟩ ⟨Nat.le_of_ble_eq_true rfl, Nat.le_of_ble_eq_true rfl⟩ dX7_tagged_61 (fun r61 f59 H locs h60 hz hS => ?_)
              have k62 := h60
              refine lv_iload_n hx hb dX7_tagged_64 rfl (lv_at hl 2 rfl) ?_
              refine lv_icmp_ne (tgt := 71) hx hb dX7_tagged_65 (by decide) (fun c63 => ?_) (fun c63 => ?_)
              · refine lv_iinc (v := nI (i + 1)) (lv' := [(5, .int (nI (i + 1))), (6, .ref (fg i)), (0, .ref o), (2, .int y), (3, .ref (fq jf)), (4, .int tt)]) hx hb dX7_tagged_71 hl (k := 5) rfl (nI_1 i) (by decide) rfl (fun ls hl => ?_)
                refine lv_goto (tgt := 29) hx hb dX7_tagged_74 (by decide) ?_
                have a64 : f50 o = some (.inr (7, [.ref fa, .ref fi, .ref nu, .int (nI nl), .ref fm, .int (nI nf), .ref co, .int (nI nc), .ref en, .ref ke, .long lk])) := k52 _ _ a29 
                have a65 : f59 o = some (.inr (7, [.ref fa, .ref fi, .ref nu, .int (nI nl), .ref fm, .int (nI nf), .ref co, .int (nI nc), .ref en, .ref ke, .long lk])) := k62 _ _ a64 
                have a66 : f50 fa = some (.inr (2, [.int u1, .int u2, .int u3, .ref ev])) := k52 _ _ a30 
                have a67 : f59 fa = some (.inr (2, [.int u1, .int u2, .int u3, .ref ev])) := k62 _ _ a66 
                have a68 : f50 ev = some (.inl (cy 0, 8, .inl gv)) := k52 _ _ a31 
                have a69 : f59 ev = some (.inl (cy 0, 8, .inl gv)) := k62 _ _ a68 
                have a70 : f50 fi = some (.inr (5, [.ref al, .ref ra, .int (nI nn)])) := k52 _ _ a32 
                have a71 : f59 fi = some (.inr (5, [.ref al, .ref ra, .int (nI nn)])) := k62 _ _ a70 
                have a72 : f50 al = some (.inl (cy 3, 60, .inr (.inr (.inr (.inr ga))))) := k52 _ _ a33 
                have a73 : f59 al = some (.inl (cy 3, 60, .inr (.inr (.inr (.inr ga))))) := k62 _ _ a72 
                have a74 : f50 ra = some (.inl (cy 3, 60, .inr (.inr (.inr (.inr gr))))) := k52 _ _ a34 
                have a75 : f59 ra = some (.inl (cy 3, 60, .inr (.inr (.inr (.inr gr))))) := k62 _ _ a74 
                have a76 : f50 nu = some (.inl (cy 0, 12, .inl gu)) := k52 _ _ a35 
                have a77 : f59 nu = some (.inl (cy 0, 12, .inl gu)) := k62 _ _ a76 
                have a78 : f50 fm = some (.inl (cy 4, 6, .inr (.inr (.inr (.inr gf))))) := k52 _ _ a36 
                have a79 : f59 fm = some (.inl (cy 4, 6, .inr (.inr (.inr (.inr gf))))) := k62 _ _ a78 
                have a80 : f50 co = some (.inl (cy 5, 60, .inr (.inr (.inr (.inr gc))))) := k52 _ _ a37 
                have a81 : f59 co = some (.inl (cy 5, 60, .inr (.inr (.inr (.inr gc))))) := k62 _ _ a80 
                have a82 : f50 en = some (.inl (cy 6, 4, .inr (.inr (.inr (.inr ge))))) := k52 _ _ a38 
                have a83 : f59 en = some (.inl (cy 6, 4, .inr (.inr (.inr (.inr ge))))) := k62 _ _ a82 
                have a84 : f50 ke = some (.inr (6, [.ref kn, .ref vq, .int (nI ks)])) := k52 _ _ a39 
                have a85 : f59 ke = some (.inr (6, [.ref kn, .ref vq, .int (nI ks)])) := k62 _ _ a84 
                have a86 : f50 kn = some (.inl (cy 0, 40, .inl kk)) := k52 _ _ a40 
                have a87 : f59 kn = some (.inl (cy 0, 40, .inl kk)) := k62 _ _ a86 
                have a88 : f50 vq = some (.inl (cy 0, 40, .inl kv)) := k52 _ _ a41 
                have a89 : f59 vq = some (.inl (cy 0, 40, .inl kv)) := k62 _ _ a88 
                have F90 : ∀ i9 : Nat, i9 < nn → f59 (fg i9) = some (.inr (4, [.int (kd i9), .ref (pt i9), .long (wg i9), .int (wd i9), .int (nI i9), .int (hs i9), .int (bf i9)])) := fun i9 h9 => k62 _ _ (F57 i9 h9) 
                have F91 : ∀ i9 : Nat, i9 < nn → f50 (pt i9) = some (.inl (cy 1, (ln i9), .inr (.inl (pp i9)))) := fun i9 h9 => k52 _ _ (F43 i9 h9) 
                have F92 : ∀ i9 : Nat, i9 < nn → f59 (pt i9) = some (.inl (cy 1, (ln i9), .inr (.inl (pp i9)))) := fun i9 h9 => k62 _ _ (F91 i9 h9) 
                have F93 : ∀ i9 : Nat, i9 < nf → f59 (fq i9) = some (.inr (3, [.ref (fk i9), .int (nI (fz i9))])) := fun i9 h9 => k62 _ _ (F53 i9 h9) 
                have F94 : ∀ i9 : Nat, i9 < nf → f59 (fk i9) = some (.inl (cy 0, 4, .inl (fc i9))) := fun i9 h9 => k62 _ _ (F55 i9 h9) 
                have F95 : ∀ i9 : Nat, i9 < nc → f50 (cn i9) = some (.inr (0, [.int (ce i9), .int (cm i9)])) := fun i9 h9 => k52 _ _ (F46 i9 h9) 
                have F96 : ∀ i9 : Nat, i9 < nc → f59 (cn i9) = some (.inr (0, [.int (ce i9), .int (cm i9)])) := fun i9 h9 => k62 _ _ (F95 i9 h9) 
                have F97 : ∀ i9 : Nat, i9 < 4 → f50 (ea i9) = some (.inr (1, [.ref (ma i9), .int (nI (sq i9))])) := fun i9 h9 => k52 _ _ (F47 i9 h9) 
                have F98 : ∀ i9 : Nat, i9 < 4 → f59 (ea i9) = some (.inr (1, [.ref (ma i9), .int (nI (sq i9))])) := fun i9 h9 => k62 _ _ (F97 i9 h9) 
                have F99 : ∀ i9 : Nat, i9 < 4 → f50 (ma i9) = some (.inl (cy 0, 60, .inl (mb i9))) := fun i9 h9 => k52 _ _ (F48 i9 h9) 
                have F100 : ∀ i9 : Nat, i9 < 4 → f59 (ma i9) = some (.inl (cy 0, 60, .inl (mb i9))) := fun i9 h9 => k62 _ _ (F99 i9 h9) 
                exact ih (i + 1) tt _ _ _ _ (by omega) (by omega) a65 a67 a69 a71 a73 a75 a77 a79 a81 a83 a85 a87 a89 F90 F92 F93 F94 F96 F98 F100 (by
                      intro b e hb 
                      have hb1 : fL27 b = some e := k28 b e hb 
                      have hb2 : f50 b = some e := k52 b e hb1 
                      have hb3 : f59 b = some e := k62 b e hb2 
                      exact hb3) hz hS (lv_sub hl [2, 3, 4, 5, 0] rfl)
              · refine lv_iinc (v := tt + 1) (lv' := [(4, .int (tt + 1)), (6, .ref (fg i)), (0, .ref o), (2, .int y), (3, .ref (fq jf)), (5, .int (nI i))]) hx hb dX7_tagged_68 hl (k := 4) rfl rfl (by decide) rfl (fun ls hl => ?_)
                refine lv_iinc (v := nI (i + 1)) (lv' := [(5, .int (nI (i + 1))), (4, .int (tt + 1)), (6, .ref (fg i)), (0, .ref o), (2, .int y), (3, .ref (fq jf))]) hx hb dX7_tagged_71 hl (k := 5) rfl (nI_1 i) (by decide) rfl (fun ls hl => ?_)
                refine lv_goto (tgt := 29) hx hb dX7_tagged_74 (by decide) ?_
                have a101 : f50 o = some (.inr (7, [.ref fa, .ref fi, .ref nu, .int (nI nl), .ref fm, .int (nI nf), .ref co, .int (nI nc), .ref en, .ref ke, .long lk])) := k52 _ _ a29 
                have a102 : f59 o = some (.inr (7, [.ref fa, .ref fi, .ref nu, .int (nI nl), .ref fm, .int (nI nf), .ref co, .int (nI nc), .ref en, .ref ke, .long lk])) := k62 _ _ a101 
                have a103 : f50 fa = some (.inr (2, [.int u1, .int u2, .int u3, .ref ev])) := k52 _ _ a30 
                have a104 : f59 fa = some (.inr (2, [.int u1, .int u2, .int u3, .ref ev])) := k62 _ _ a103 
                have a105 : f50 ev = some (.inl (cy 0, 8, .inl gv)) := k52 _ _ a31 
                have a106 : f59 ev = some (.inl (cy 0, 8, .inl gv)) := k62 _ _ a105 
                have a107 : f50 fi = some (.inr (5, [.ref al, .ref ra, .int (nI nn)])) := k52 _ _ a32 
                have a108 : f59 fi = some (.inr (5, [.ref al, .ref ra, .int (nI nn)])) := k62 _ _ a107 
                have a109 : f50 al = some (.inl (cy 3, 60, .inr (.inr (.inr (.inr ga))))) := k52 _ _ a33 
                have a110 : f59 al = some (.inl (cy 3, 60, .inr (.inr (.inr (.inr ga))))) := k62 _ _ a109 
                have a111 : f50 ra = some (.inl (cy 3, 60, .inr (.inr (.inr (.inr gr))))) := k52 _ _ a34 
                have a112 : f59 ra = some (.inl (cy 3, 60, .inr (.inr (.inr (.inr gr))))) := k62 _ _ a111 
                have a113 : f50 nu = some (.inl (cy 0, 12, .inl gu)) := k52 _ _ a35 
                have a114 : f59 nu = some (.inl (cy 0, 12, .inl gu)) := k62 _ _ a113 
                have a115 : f50 fm = some (.inl (cy 4, 6, .inr (.inr (.inr (.inr gf))))) := k52 _ _ a36 
                have a116 : f59 fm = some (.inl (cy 4, 6, .inr (.inr (.inr (.inr gf))))) := k62 _ _ a115 
                have a117 : f50 co = some (.inl (cy 5, 60, .inr (.inr (.inr (.inr gc))))) := k52 _ _ a37 
                have a118 : f59 co = some (.inl (cy 5, 60, .inr (.inr (.inr (.inr gc))))) := k62 _ _ a117 
                have a119 : f50 en = some (.inl (cy 6, 4, .inr (.inr (.inr (.inr ge))))) := k52 _ _ a38 
                have a120 : f59 en = some (.inl (cy 6, 4, .inr (.inr (.inr (.inr ge))))) := k62 _ _ a119 
                have a121 : f50 ke = some (.inr (6, [.ref kn, .ref vq, .int (nI ks)])) := k52 _ _ a39 
                have a122 : f59 ke = some (.inr (6, [.ref kn, .ref vq, .int (nI ks)])) := k62 _ _ a121 
                have a123 : f50 kn = some (.inl (cy 0, 40, .inl kk)) := k52 _ _ a40 
                have a124 : f59 kn = some (.inl (cy 0, 40, .inl kk)) := k62 _ _ a123 
                have a125 : f50 vq = some (.inl (cy 0, 40, .inl kv)) := k52 _ _ a41 
                have a126 : f59 vq = some (.inl (cy 0, 40, .inl kv)) := k62 _ _ a125 
                have F127 : ∀ i9 : Nat, i9 < nn → f59 (fg i9) = some (.inr (4, [.int (kd i9), .ref (pt i9), .long (wg i9), .int (wd i9), .int (nI i9), .int (hs i9), .int (bf i9)])) := fun i9 h9 => k62 _ _ (F57 i9 h9) 
                have F128 : ∀ i9 : Nat, i9 < nn → f50 (pt i9) = some (.inl (cy 1, (ln i9), .inr (.inl (pp i9)))) := fun i9 h9 => k52 _ _ (F43 i9 h9) 
                have F129 : ∀ i9 : Nat, i9 < nn → f59 (pt i9) = some (.inl (cy 1, (ln i9), .inr (.inl (pp i9)))) := fun i9 h9 => k62 _ _ (F128 i9 h9) 
                have F130 : ∀ i9 : Nat, i9 < nf → f59 (fq i9) = some (.inr (3, [.ref (fk i9), .int (nI (fz i9))])) := fun i9 h9 => k62 _ _ (F53 i9 h9) 
                have F131 : ∀ i9 : Nat, i9 < nf → f59 (fk i9) = some (.inl (cy 0, 4, .inl (fc i9))) := fun i9 h9 => k62 _ _ (F55 i9 h9) 
                have F132 : ∀ i9 : Nat, i9 < nc → f50 (cn i9) = some (.inr (0, [.int (ce i9), .int (cm i9)])) := fun i9 h9 => k52 _ _ (F46 i9 h9) 
                have F133 : ∀ i9 : Nat, i9 < nc → f59 (cn i9) = some (.inr (0, [.int (ce i9), .int (cm i9)])) := fun i9 h9 => k62 _ _ (F132 i9 h9) 
                have F134 : ∀ i9 : Nat, i9 < 4 → f50 (ea i9) = some (.inr (1, [.ref (ma i9), .int (nI (sq i9))])) := fun i9 h9 => k52 _ _ (F47 i9 h9) 
                have F135 : ∀ i9 : Nat, i9 < 4 → f59 (ea i9) = some (.inr (1, [.ref (ma i9), .int (nI (sq i9))])) := fun i9 h9 => k62 _ _ (F134 i9 h9) 
                have F136 : ∀ i9 : Nat, i9 < 4 → f50 (ma i9) = some (.inl (cy 0, 60, .inl (mb i9))) := fun i9 h9 => k52 _ _ (F48 i9 h9) 
                have F137 : ∀ i9 : Nat, i9 < 4 → f59 (ma i9) = some (.inl (cy 0, 60, .inl (mb i9))) := fun i9 h9 => k62 _ _ (F136 i9 h9) 
                exact ih (i + 1) (tt + 1) _ _ _ _ (by omega) (by omega) a102 a104 a106 a108 a110 a112 a114 a116 a118 a120 a122 a124 a126 F127 F129 F130 F131 F133 F135 F137 (by
                      intro b e hb 
                      have hb1 : fL27 b = some e := k28 b e hb 
                      have hb2 : f50 b = some e := k52 b e hb1 
                      have hb3 : f59 b = some e := k62 b e hb2 
                      exact hb3) hz hS (lv_sub hl [3, 4, 5, 1, 0] rfl)
        have a138 : f1 o = some (.inr (7, [.ref fa, .ref fi, .ref nu, .int (nI nl), .ref fm, .int (nI nf), .ref co, .int (nI nc), .ref en, .ref ke, .long lk])) := k3 _ _ x_o 
        have a139 : f1 fa = some (.inr (2, [.int u1, .int u2, .int u3, .ref ev])) := k3 _ _ x_fa 
        have a140 : f1 ev = some (.inl (cy 0, 8, .inl gv)) := k3 _ _ x_ev 
        have a141 : f1 fi = some (.inr (5, [.ref al, .ref ra, .int (nI nn)])) := k3 _ _ x_fi 
        have a142 : f1 al = some (.inl (cy 3, 60, .inr (.inr (.inr (.inr ga))))) := k3 _ _ x_al 
        have a143 : f1 ra = some (.inl (cy 3, 60, .inr (.inr (.inr (.inr gr))))) := k3 _ _ x_ra 
        have a144 : f1 nu = some (.inl (cy 0, 12, .inl gu)) := k3 _ _ x_nu 
        have a145 : f1 fm = some (.inl (cy 4, 6, .inr (.inr (.inr (.inr gf))))) := k3 _ _ x_fm 
        have a146 : f1 co = some (.inl (cy 5, 60, .inr (.inr (.inr (.inr gc))))) := k3 _ _ x_co 
        have a147 : f1 en = some (.inl (cy 6, 4, .inr (.inr (.inr (.inr ge))))) := k3 _ _ x_en 
        have a148 : f1 ke = some (.inr (6, [.ref kn, .ref vq, .int (nI ks)])) := k3 _ _ x_ke 
        have a149 : f1 kn = some (.inl (cy 0, 40, .inl kk)) := k3 _ _ x_kn 
        have a150 : f1 vq = some (.inl (cy 0, 40, .inl kv)) := k3 _ _ x_vq 
        have F151 : ∀ i9 : Nat, i9 < nn → f1 (fg i9) = some (.inr (4, [.int (kd i9), .ref (pt i9), .long (wg i9), .int (wd i9), .int (nI i9), .int (hs i9), .int (bf i9)])) := fun i9 h9 => k3 _ _ (hF i9 h9) 
        have F152 : ∀ i9 : Nat, i9 < nn → f1 (pt i9) = some (.inl (cy 1, (ln i9), .inr (.inl (pp i9)))) := fun i9 h9 => k3 _ _ (hP i9 h9) 
        have F153 : ∀ i9 : Nat, i9 < nf → f1 (fq i9) = some (.inr (3, [.ref (fk i9), .int (nI (fz i9))])) := fun i9 h9 => k3 _ _ (hFq i9 h9) 
        have F154 : ∀ i9 : Nat, i9 < nf → f1 (fk i9) = some (.inl (cy 0, 4, .inl (fc i9))) := fun i9 h9 => k3 _ _ (hFk i9 h9) 
        have F155 : ∀ i9 : Nat, i9 < nc → f1 (cn i9) = some (.inr (0, [.int (ce i9), .int (cm i9)])) := fun i9 h9 => k3 _ _ (hCn i9 h9) 
        have F156 : ∀ i9 : Nat, i9 < 4 → f1 (ea i9) = some (.inr (1, [.ref (ma i9), .int (nI (sq i9))])) := fun i9 h9 => k3 _ _ (hEa i9 h9) 
        have F157 : ∀ i9 : Nat, i9 < 4 → f1 (ma i9) = some (.inl (cy 0, 60, .inl (mb i9))) := fun i9 h9 => k3 _ _ (hMa i9 h9) 
        exact lp26 (nn - 0 + 1) 0 0 _ _ _ _ (Nat.lt_succ_self _) (by omega) a138 a139 a140 a141 a142 a143 a144 a145 a146 a147 a148 a149 a150 F151 F152 F153 F154 F155 F156 F157 (fun b e hb => hb) hz hS (lv_sub hl [3, 5, 2, 1, 0] rfl)
      · refine lv_bipush (v := (-2)) hx hb dX7_tagged_20 (by decide) ?_
        have a158 : f1 o = some (.inr (7, [.ref fa, .ref fi, .ref nu, .int (nI nl), .ref fm, .int (nI nf), .ref co, .int (nI nc), .ref en, .ref ke, .long lk])) := k3 _ _ x_o 
        have a159 : f1 fa = some (.inr (2, [.int u1, .int u2, .int u3, .ref ev])) := k3 _ _ x_fa 
        have a160 : f1 ev = some (.inl (cy 0, 8, .inl gv)) := k3 _ _ x_ev 
        have a161 : f1 fi = some (.inr (5, [.ref al, .ref ra, .int (nI nn)])) := k3 _ _ x_fi 
        have a162 : f1 al = some (.inl (cy 3, 60, .inr (.inr (.inr (.inr ga))))) := k3 _ _ x_al 
        have a163 : f1 ra = some (.inl (cy 3, 60, .inr (.inr (.inr (.inr gr))))) := k3 _ _ x_ra 
        have a164 : f1 nu = some (.inl (cy 0, 12, .inl gu)) := k3 _ _ x_nu 
        have a165 : f1 fm = some (.inl (cy 4, 6, .inr (.inr (.inr (.inr gf))))) := k3 _ _ x_fm 
        have a166 : f1 co = some (.inl (cy 5, 60, .inr (.inr (.inr (.inr gc))))) := k3 _ _ x_co 
        have a167 : f1 en = some (.inl (cy 6, 4, .inr (.inr (.inr (.inr ge))))) := k3 _ _ x_en 
        have a168 : f1 ke = some (.inr (6, [.ref kn, .ref vq, .int (nI ks)])) := k3 _ _ x_ke 
        have a169 : f1 kn = some (.inl (cy 0, 40, .inl kk)) := k3 _ _ x_kn 
        have a170 : f1 vq = some (.inl (cy 0, 40, .inl kv)) := k3 _ _ x_vq 
        have F171 : ∀ i9 : Nat, i9 < nn → f1 (fg i9) = some (.inr (4, [.int (kd i9), .ref (pt i9), .long (wg i9), .int (wd i9), .int (nI i9), .int (hs i9), .int (bf i9)])) := fun i9 h9 => k3 _ _ (hF i9 h9) 
        have F172 : ∀ i9 : Nat, i9 < nn → f1 (pt i9) = some (.inl (cy 1, (ln i9), .inr (.inl (pp i9)))) := fun i9 h9 => k3 _ _ (hP i9 h9) 
        have F173 : ∀ i9 : Nat, i9 < nf → f1 (fq i9) = some (.inr (3, [.ref (fk i9), .int (nI (fz i9))])) := fun i9 h9 => k3 _ _ (hFq i9 h9) 
        have F174 : ∀ i9 : Nat, i9 < nf → f1 (fk i9) = some (.inl (cy 0, 4, .inl (fc i9))) := fun i9 h9 => k3 _ _ (hFk i9 h9) 
        have F175 : ∀ i9 : Nat, i9 < nc → f1 (cn i9) = some (.inr (0, [.int (ce i9), .int (cm i9)])) := fun i9 h9 => k3 _ _ (hCn i9 h9) 
        have F176 : ∀ i9 : Nat, i9 < 4 → f1 (ea i9) = some (.inr (1, [.ref (ma i9), .int (nI (sq i9))])) := fun i9 h9 => k3 _ _ (hEa i9 h9) 
        have F177 : ∀ i9 : Nat, i9 < 4 → f1 (ma i9) = some (.inl (cy 0, 60, .inl (mb i9))) := fun i9 h9 => k3 _ _ (hMa i9 h9) 
        exact z_iret C hr rfl hz hS ⟨u1, u2, u3, gv, nl, gu, nn, ga, gr, fg, pt, kd, ln, pp, wg, wd, hs, bf, nf, gf, fq, fk, fz, fc, nc, gc, cn, ce, cm, sq, mb, ks, kk, kv, lk, rfl, rfl, ⟨a158, a159, a160, a161, a162, a163, a164, a165, a166, a167, a168, a169, a170, F171, F172, F173, F174, F175, F176, F177, hn60, hl12, hf6, hc60, hs40, hga, hgr, hln, hk5, hk4, hfi, hpi, har, hgf, hfz, hgc, hG, hsq, hei, hmi, kne, hca, hcr, hlk⟩⟩ (Nat.le_of_ble_eq_true rfl) (Nat.le_of_ble_eq_true rfl) dX7_tagged_22
  · refine z_callVq (As := [.int x]) C hz hS hA hl (k_X7_findFamily_B l D cy f o fa fi nu nl fm nf co nc en ke lk x x_o hvf (by omega)) zyX7_findFamily mMX7_194 x_o zl7 rfl rfl (Nat.le_of_ble_eq_true rfl) ⟨Nat.le_of_ble_eq_true rfl, Nat.le_of_ble_eq_true rfl⟩ ⟨Nat.le_of_ble_eq_true rfl, Nat.le_of_ble_eq_true rfl⟩ dX7_tagged_2 (fun r f178 H locs h179 hz hS => ?_)
    obtain ⟨rfl, k180⟩ := h179
    refine W.eq (g2 := F0 m 5 ls [.null]) rfl ?_
    refine lv_astore_nN (lv' := [(3, .null), (0, .ref o), (1, .int x), (2, .int y)]) hx hb dX7_tagged_5 rfl hl (by decide) rfl (fun ls hl => ?_)
    refine lv_aload_nN hx hb dX7_tagged_6 rfl (lv_at hl 0 rfl) ?_
    refine lv_ifnullN (tgt := 20) hx hb dX7_tagged_7 (by decide) ?_
    refine lv_bipush (v := (-2)) hx hb dX7_tagged_20 (by decide) ?_
    have a181 : f178 o = some (.inr (7, [.ref fa, .ref fi, .ref nu, .int (nI nl), .ref fm, .int (nI nf), .ref co, .int (nI nc), .ref en, .ref ke, .long lk])) := k180 _ _ x_o 
    have a182 : f178 fa = some (.inr (2, [.int u1, .int u2, .int u3, .ref ev])) := k180 _ _ x_fa 
    have a183 : f178 ev = some (.inl (cy 0, 8, .inl gv)) := k180 _ _ x_ev 
    have a184 : f178 fi = some (.inr (5, [.ref al, .ref ra, .int (nI nn)])) := k180 _ _ x_fi 
    have a185 : f178 al = some (.inl (cy 3, 60, .inr (.inr (.inr (.inr ga))))) := k180 _ _ x_al 
    have a186 : f178 ra = some (.inl (cy 3, 60, .inr (.inr (.inr (.inr gr))))) := k180 _ _ x_ra 
    have a187 : f178 nu = some (.inl (cy 0, 12, .inl gu)) := k180 _ _ x_nu 
    have a188 : f178 fm = some (.inl (cy 4, 6, .inr (.inr (.inr (.inr gf))))) := k180 _ _ x_fm 
    have a189 : f178 co = some (.inl (cy 5, 60, .inr (.inr (.inr (.inr gc))))) := k180 _ _ x_co 
    have a190 : f178 en = some (.inl (cy 6, 4, .inr (.inr (.inr (.inr ge))))) := k180 _ _ x_en 
    have a191 : f178 ke = some (.inr (6, [.ref kn, .ref vq, .int (nI ks)])) := k180 _ _ x_ke 
    have a192 : f178 kn = some (.inl (cy 0, 40, .inl kk)) := k180 _ _ x_kn 
    have a193 : f178 vq = some (.inl (cy 0, 40, .inl kv)) := k180 _ _ x_vq 
    have F194 : ∀ i9 : Nat, i9 < nn → f178 (fg i9) = some (.inr (4, [.int (kd i9), .ref (pt i9), .long (wg i9), .int (wd i9), .int (nI i9), .int (hs i9), .int (bf i9)])) := fun i9 h9 => k180 _ _ (hF i9 h9) 
    have F195 : ∀ i9 : Nat, i9 < nn → f178 (pt i9) = some (.inl (cy 1, (ln i9), .inr (.inl (pp i9)))) := fun i9 h9 => k180 _ _ (hP i9 h9) 
    have F196 : ∀ i9 : Nat, i9 < nf → f178 (fq i9) = some (.inr (3, [.ref (fk i9), .int (nI (fz i9))])) := fun i9 h9 => k180 _ _ (hFq i9 h9) 
    have F197 : ∀ i9 : Nat, i9 < nf → f178 (fk i9) = some (.inl (cy 0, 4, .inl (fc i9))) := fun i9 h9 => k180 _ _ (hFk i9 h9) 
    have F198 : ∀ i9 : Nat, i9 < nc → f178 (cn i9) = some (.inr (0, [.int (ce i9), .int (cm i9)])) := fun i9 h9 => k180 _ _ (hCn i9 h9) 
    have F199 : ∀ i9 : Nat, i9 < 4 → f178 (ea i9) = some (.inr (1, [.ref (ma i9), .int (nI (sq i9))])) := fun i9 h9 => k180 _ _ (hEa i9 h9) 
    have F200 : ∀ i9 : Nat, i9 < 4 → f178 (ma i9) = some (.inl (cy 0, 60, .inl (mb i9))) := fun i9 h9 => k180 _ _ (hMa i9 h9) 
    exact z_iret C hr rfl hz hS ⟨u1, u2, u3, gv, nl, gu, nn, ga, gr, fg, pt, kd, ln, pp, wg, wd, hs, bf, nf, gf, fq, fk, fz, fc, nc, gc, cn, ce, cm, sq, mb, ks, kk, kv, lk, rfl, rfl, ⟨a181, a182, a183, a184, a185, a186, a187, a188, a189, a190, a191, a192, a193, F194, F195, F196, F197, F198, F199, F200, hn60, hl12, hf6, hc60, hs40, hga, hgr, hln, hk5, hk4, hfi, hpi, har, hgf, hfz, hgc, hG, hsq, hei, hmi, kne, hca, hcr, hlk⟩⟩ (Nat.le_of_ble_eq_true rfl) (Nat.le_of_ble_eq_true rfl) dX7_tagged_22
