abbrev rmX7_areKindsOnce : Room := { frames := 0, cells := 0, slots := 0, locals := 0 }
set_option maxHeartbeats 4000000 in
set_option maxRecDepth 100000 in
theorem k_X7_areKindsOnce (l : Launch) (D : va_G) (cy : Nat → ClassId) (f : zM) (ta : Nat) (g : Nat → Int32) (p0 : f ta = some (.inl (cy 0, 4, .inl g)))   : zCi l D cy yX7_areKindsOnce cX7_areKindsOnce 6 (Option.some Jvm.ClassFile.FieldType.boolean) rmX7_areKindsOnce [.ref ta] f (fun (r : Int32) (f1 : zM) => r = (if (zks g 4).isSome = true then 1 else 0) ∧ (∀ (b : Nat) (e : va_E), f b = some e → f1 b = some e)) := by
  intro sz
  refine z_body (by decide +kernel) (Nat.le_of_ble_eq_true rfl) ?_
  intro p e s m below meth c ls C hr hin hsz hz hl
  subst hsz
  have hx := C.1
  have hb := C.2.1
  have hA : ∀ q, s.heap.size ≤ q → zA f s.heap.size q := fun q h => Or.inr h
  have hS : va_S (zA f s.heap.size) s.heap s.heap [] := va_S.rf
  have hl : lv_has ls 6 [(0, .ref ta)] := hl
  refine lv_iconst (v := 0) hx hb dX7_areKindsOnce_0 (by decide) ?_
  refine lv_istore_n (lv' := [(1, .int 0), (0, .ref ta)]) hx hb dX7_areKindsOnce_1 rfl hl (by decide) rfl (fun ls hl => ?_)
  refine lv_aload_n hx hb dX7_areKindsOnce_2 rfl (lv_at hl 1 rfl) ?_
  refine lv_astore_n (lv' := [(2, .ref ta), (1, .int 0), (0, .ref ta)]) hx hb dX7_areKindsOnce_3 rfl hl (by decide) rfl (fun ls hl => ?_)
  refine lv_aload_n hx hb dX7_areKindsOnce_4 rfl (lv_at hl 0 rfl) ?_
  refine z_alen (v := 4) 0 C hz p0 rfl rfl dX7_areKindsOnce_5 ?_
  refine lv_istore_n (lv' := [(3, .int 4), (2, .ref ta), (1, .int 0), (0, .ref ta)]) hx hb dX7_areKindsOnce_6 rfl hl (by decide) rfl (fun ls hl => ?_)
  refine lv_iconst (v := 0) hx hb dX7_areKindsOnce_7 (by decide) ?_
  refine lv_istore (lv' := [(4, .int 0), (3, .int 4), (2, .ref ta), (1, .int 0), (0, .ref ta)]) hx hb dX7_areKindsOnce_8 hl (by decide) rfl (fun ls hl => ?_)
  have lp1 : ∀ (n : Nat) (sn : Int32) (i : Nat) (fL2 : zM) (H : Heap) (locs : List Loc) (ls : Array Slot), (4 - i) < n → (i ≤ 4) → (zks g i = some sn) → fL2 ta = some (.inl (cy 0, 4, .inl g)) → (∀ (b : Nat) (e : va_E), f b = some e → fL2 b = some e) → zH D (zA f s.heap.size) fL2 H → va_S (zA f s.heap.size) s.heap H locs → lv_has ls 6 [(0, .ref ta), (1, .int sn), (2, .ref ta), (3, .int 4), (4, .int (nI i))] → W p l e rmX7_areKindsOnce s m ([.ref ta] : List Value).toArray below meth c H locs 0 0 (MQ below (va_Qi (fun (r : Int32) (f1 : zM) => r = (if (zks g 4).isSome = true then 1 else 0) ∧ (∀ (b : Nat) (e : va_E), f b = some e → f1 b = some e)) (zB D f s.heap.size) (zA f s.heap.size)) ([.ref ta] : List Value).toArray s rmX7_areKindsOnce.cells rmX7_areKindsOnce.slots (zA f s.heap.size)) (F0 m 10 ls []) := by
    intro n
    induction n with
    | zero => intro sn i fL2 H locs ls hmz; exact absurd hmz (Nat.not_lt_zero _)
    | succ n ih =>
      intro sn i fL2 H locs ls hmz hi hs a4 k3 hz hS hl
      refine lv_iload hx hb dX7_areKindsOnce_10 (lv_at hl 4 rfl) ?_
      refine lv_iload_n hx hb dX7_areKindsOnce_12 rfl (lv_at hl 3 rfl) ?_
      refine lv_icmp_ge (tgt := 67) hx hb dX7_areKindsOnce_13 (by decide) (fun c5 => ?_) (fun c5 => ?_)
      · replace c5 : (4 ≤ i) := (nI_leI (a := 4) (b := i) (by omega) (by omega)).mp c5
        refine lv_iconst (v := 1) hx hb dX7_areKindsOnce_67 (by decide) ?_
        exact z_iret C hr (by decide) hz hS ⟨(by rw [if_pos (by rw [show (4 : Nat) = i by omega, hs]; rfl)]), (by
              intro b e hb 
              have hb0 : fL2 b = some e := k3 b e hb 
              exact hb0)⟩ (Nat.le_of_ble_eq_true rfl) (Nat.le_of_ble_eq_true rfl) dX7_areKindsOnce_68
      · replace c5 : ¬ (4 ≤ i) := fun h => c5 ((nI_leI (a := 4) (b := i) (by omega) (by omega)).mpr h)
        refine lv_aload_n hx hb dX7_areKindsOnce_16 rfl (lv_at hl 2 rfl) ?_
        refine lv_iload hx hb dX7_areKindsOnce_17 (lv_at hl 4 rfl) ?_
        refine z_iald i C hz a4 rfl (by omega) (by omega) dX7_areKindsOnce_19 ?_
        refine lv_istore (lv' := [(5, .int (g i)), (0, .ref ta), (1, .int sn), (2, .ref ta), (3, .int 4), (4, .int (nI i))]) hx hb dX7_areKindsOnce_20 hl (by decide) rfl (fun ls hl => ?_)
        refine lv_iload hx hb dX7_areKindsOnce_22 (lv_at hl 0 rfl) ?_
        refine lv_iconst (v := (-1)) hx hb dX7_areKindsOnce_24 (by decide) ?_
        refine lv_icmp_ne (tgt := 31) hx hb dX7_areKindsOnce_25 (by decide) (fun c6 => ?_) (fun c6 => ?_)
        · refine lv_iload hx hb dX7_areKindsOnce_31 (lv_at hl 0 rfl) ?_
          refine lv_if_lt (tgt := 52) hx hb dX7_areKindsOnce_33 (by decide) (fun c7 => ?_) (fun c7 => ?_)
          · refine lv_iconst (v := 0) hx hb dX7_areKindsOnce_52 (by decide) ?_
            exact z_iret C hr (by decide) hz hS ⟨(by rw [if_neg (zks_none4 (i := i) (by omega) (by simp [zks, hs, c6, c7]))]), (by
                  intro b e hb 
                  have hb0 : fL2 b = some e := k3 b e hb 
                  exact hb0)⟩ (Nat.le_of_ble_eq_true rfl) (Nat.le_of_ble_eq_true rfl) dX7_areKindsOnce_53
          · refine lv_iload hx hb dX7_areKindsOnce_36 (lv_at hl 0 rfl) ?_
            refine lv_bipush (v := 6) hx hb dX7_areKindsOnce_38 (by decide) ?_
            refine lv_icmp_gt (tgt := 52) hx hb dX7_areKindsOnce_40 (by decide) (fun c8 => ?_) (fun c8 => ?_)
            · refine lv_iconst (v := 0) hx hb dX7_areKindsOnce_52 (by decide) ?_
              exact z_iret C hr (by decide) hz hS ⟨(by rw [if_neg (zks_none4 (i := i) (by omega) (by simp [zks, hs, c6, c7, c8]))]), (by
                    intro b e hb 
                    have hb0 : fL2 b = some e := k3 b e hb 
                    exact hb0)⟩ (Nat.le_of_ble_eq_true rfl) (Nat.le_of_ble_eq_true rfl) dX7_areKindsOnce_53
            · refine lv_iload_n hx hb dX7_areKindsOnce_43 rfl (lv_at hl 2 rfl) ?_
              refine lv_iload hx hb dX7_areKindsOnce_44 (lv_at hl 0 rfl) ?_
              refine lv_ishr hx hb dX7_areKindsOnce_46 ?_
              refine lv_iconst (v := 1) hx hb dX7_areKindsOnce_47 (by decide) ?_
              refine lv_iand hx hb dX7_areKindsOnce_48 ?_
              refine lv_if_eq (tgt := 54) hx hb dX7_areKindsOnce_49 (by decide) (fun c9 => ?_) (fun c9 => ?_)
              · refine lv_iload_n hx hb dX7_areKindsOnce_54 rfl (lv_at hl 2 rfl) ?_
                refine lv_iconst (v := 1) hx hb dX7_areKindsOnce_55 (by decide) ?_
                refine lv_iload hx hb dX7_areKindsOnce_56 (lv_at hl 0 rfl) ?_
                refine lv_ishl hx hb dX7_areKindsOnce_58 ?_
                refine lv_ior hx hb dX7_areKindsOnce_59 ?_
                refine lv_istore_n (lv' := [(1, .int (sn ||| (1 <<< ((g i) &&& 31)))), (5, .int (g i)), (0, .ref ta), (2, .ref ta), (3, .int 4), (4, .int (nI i))]) hx hb dX7_areKindsOnce_60 rfl hl (by decide) rfl (fun ls hl => ?_)
                refine lv_iinc (v := nI (i + 1)) (lv' := [(4, .int (nI (i + 1))), (1, .int (sn ||| (1 <<< ((g i) &&& 31)))), (5, .int (g i)), (0, .ref ta), (2, .ref ta), (3, .int 4)]) hx hb dX7_areKindsOnce_61 hl (k := 5) rfl (nI_1 i) (by decide) rfl (fun ls hl => ?_)
                refine lv_goto (tgt := 10) hx hb dX7_areKindsOnce_64 (by decide) ?_
                exact ih (sn ||| (1 <<< ((g i) &&& 31))) (i + 1) _ _ _ _ (by omega) (by omega) (by simp [zks, hs, c6, c7, c8, c9]) a4 (by
                      intro b e hb 
                      have hb0 : fL2 b = some e := k3 b e hb 
                      exact hb0) hz hS (lv_sub hl [3, 1, 4, 5, 0] rfl)
              · refine lv_iconst (v := 0) hx hb dX7_areKindsOnce_52 (by decide) ?_
                exact z_iret C hr (by decide) hz hS ⟨(by rw [if_neg (zks_none4 (i := i) (by omega) (by simp [zks, hs, c6, c7, c8, c9]))]), (by
                      intro b e hb 
                      have hb0 : fL2 b = some e := k3 b e hb 
                      exact hb0)⟩ (Nat.le_of_ble_eq_true rfl) (Nat.le_of_ble_eq_true rfl) dX7_areKindsOnce_53
        · refine lv_goto (tgt := 61) hx hb dX7_areKindsOnce_28 (by decide) ?_
          refine lv_iinc (v := nI (i + 1)) (lv' := [(4, .int (nI (i + 1))), (5, .int (g i)), (0, .ref ta), (1, .int sn), (2, .ref ta), (3, .int 4)]) hx hb dX7_areKindsOnce_61 hl (k := 5) rfl (nI_1 i) (by decide) rfl (fun ls hl => ?_)
          refine lv_goto (tgt := 10) hx hb dX7_areKindsOnce_64 (by decide) ?_
          exact ih sn (i + 1) _ _ _ _ (by omega) (by omega) (by simp [zks, hs, c6]) a4 (by
                intro b e hb 
                have hb0 : fL2 b = some e := k3 b e hb 
                exact hb0) hz hS (lv_sub hl [2, 3, 4, 5, 0] rfl)
  exact lp1 (4 - 0 + 1) 0 0 _ _ _ _ (Nat.lt_succ_self _) (by omega) rfl p0 (fun b e hb => hb) hz hS (lv_sub hl [4, 3, 2, 1, 0] rfl)
abbrev rmX7_family : Room := { frames := 2, cells := 3, slots := 10, locals := 34 }
set_option maxHeartbeats 4000000 in
set_option maxRecDepth 100000 in
theorem k_X7_family (l : Launch) (D : va_G) (cy : Nat → ClassId) (f : zM) (o : Nat) (fa : Nat) (fi : Nat) (nu : Nat) (fm : Nat) (co : Nat) (en : Nat) (ke : Nat) (ev : Nat) (al : Nat) (ra : Nat) (kn : Nat) (vq : Nat) (ge : Nat → Option Nat) (ea : Nat → Nat) (ma : Nat → Nat) (u1 : Int32) (u2 : Int32) (u3 : Int32) (gv : Nat → Int32) (nl : Nat) (gu : Nat → Int32) (nn : Nat) (ga : Nat → Option Nat) (gr : Nat → Option Nat) (fg : Nat → Nat) (pt : Nat → Nat) (kd : Nat → Int32) (ln : Nat → Nat) (pp : Nat → Nat → Int64) (wg : Nat → Int64) (wd : Nat → Int32) (hs : Nat → Int32) (bf : Nat → Int32) (nf : Nat) (gf : Nat → Option Nat) (fq : Nat → Nat) (fk : Nat → Nat) (fz : Nat → Nat) (fc : Nat → Nat → Int32) (nc : Nat) (gc : Nat → Option Nat) (cn : Nat → Nat) (ce : Nat → Int32) (cm : Nat → Int32) (sq : Nat → Nat) (mb : Nat → Nat → Int32) (ks : Nat) (kk : Nat → Int32) (kv : Nat → Int32) (lk : Int64) (x : Int32) (y : Int32) (z : Int32) (v : Int32)    (hI : zIX cy f o fa fi nu fm co en ke ev al ra kn vq ge ea ma u1 u2 u3 gv nl gu nn ga gr fg pt kd ln pp wg wd hs bf nf gf fq fk fz fc nc gc cn ce cm sq mb ks kk kv lk) : zCi l D cy yX7_family cX7_family 6 (Option.some Jvm.ClassFile.FieldType.int) rmX7_family [.ref o, .int x, .int y, .int z, .int v] f (fun (r : Int32) (f1 : zM) => ∃ (u11 : Int32) (u21 : Int32) (u31 : Int32) (gv1 : Nat → Int32) (nl1 : Nat) (gu1 : Nat → Int32) (nn1 : Nat) (ga1 : Nat → Option Nat) (gr1 : Nat → Option Nat) (fg1 : Nat → Nat) (pt1 : Nat → Nat) (kd1 : Nat → Int32) (ln1 : Nat → Nat) (pp1 : Nat → Nat → Int64) (wg1 : Nat → Int64) (wd1 : Nat → Int32) (hs1 : Nat → Int32) (bf1 : Nat → Int32) (nf1 : Nat) (gf1 : Nat → Option Nat) (fq1 : Nat → Nat) (fk1 : Nat → Nat) (fz1 : Nat → Nat) (fc1 : Nat → Nat → Int32) (nc1 : Nat) (gc1 : Nat → Option Nat) (cn1 : Nat → Nat) (ce1 : Nat → Int32) (cm1 : Nat → Int32) (sq1 : Nat → Nat) (mb1 : Nat → Nat → Int32) (ks1 : Nat) (kk1 : Nat → Int32) (kv1 : Nat → Int32) (lk1 : Int64), r = (q_family nf (zks (g4 x y z v) 4).isSome) ∧ (u11 = u1) ∧ (u21 = u2) ∧ (u31 = u3) ∧ (gv1 = gv) ∧ (nl1 = nl) ∧ (gu1 = gu) ∧ (nn1 = nn) ∧ (kd1 = kd) ∧ (ln1 = ln) ∧ (pp1 = pp) ∧ (wd1 = wd) ∧ (hs1 = hs) ∧ (nf1 = if 0 ≤ r then nf + 1 else nf) ∧ (fz1 = if 0 ≤ r then va_up fz nf (zfn (g4 x y z v) 4) else fz) ∧ (zFC nf (0 ≤ r) (zfn (g4 x y z v) 4) (zfg (g4 x y z v) 4) fc fc1) ∧ (nc1 = nc) ∧ (ce1 = ce) ∧ (cm1 = cm) ∧ (sq1 = sq) ∧ (mb1 = mb) ∧ (ks1 = ks) ∧ (kk1 = kk) ∧ (kv1 = kv) ∧ (lk1 = lk) ∧ zIX cy f1 o fa fi nu fm co en ke ev al ra kn vq ge ea ma u11 u21 u31 gv1 nl1 gu1 nn1 ga1 gr1 fg1 pt1 kd1 ln1 pp1 wg1 wd1 hs1 bf1 nf1 gf1 fq1 fk1 fz1 fc1 nc1 gc1 cn1 ce1 cm1 sq1 mb1 ks1 kk1 kv1 lk1) := by
  intro sz
  refine z_body (by decide +kernel) (Nat.le_of_ble_eq_true rfl) ?_
  intro p e s m below meth c ls C hr hin hsz hz hl
  subst hsz
  have hx := C.1
  have hb := C.2.1
  have hA : ∀ q, s.heap.size ≤ q → zA f s.heap.size q := fun q h => Or.inr h
  have hS : va_S (zA f s.heap.size) s.heap s.heap [] := va_S.rf
  have hl : lv_has ls 6 [(0, .ref o), (1, .int x), (2, .int y), (3, .int z), (4, .int v)] := hl
  obtain ⟨x_o, x_fa, x_ev, x_fi, x_al, x_ra, x_nu, x_fm, x_co, x_en, x_ke, x_kn, x_vq, hF, hP, hFq, hFk, hCn, hEa, hMa, hn60, hl12, hf6, hc60, hs40, hga, hgr, hln, hk5, hk4, hfi, hpi, har, hgf, hfz, hgc, hG, hsq, hei, hmi, kne, hca, hcr, hlk⟩ := id hI
  by_cases hk : (zks (upd (upd (upd (upd (fun _ => 0) 0 x) 1 y) 2 z) 3 v) 4).isSome = true
  · refine lv_iconst (v := 4) hx hb dX7_family_0 (by decide) ?_
    refine z_newa (atype := .int) (t0 := 0) (N' := 4) (x := (.inl (fun _ => 0))) C hz hS hA rfl mA_int rfl (fun _ => rfl) (by decide) (Nat.le_of_ble_eq_true rfl) (by decide) (Nat.le_of_ble_eq_true rfl) (Nat.le_of_ble_eq_true rfl) dX7_family_1 (fun q1 H f3 uq2 a4 k5 hz hS => ?_)
    refine lv_dup hx hb dX7_family_3 rfl ?_
    refine lv_iconst (v := 0) hx hb dX7_family_4 (by decide) ?_
    refine lv_iload_n hx hb dX7_family_5 rfl (lv_at hl 1 rfl) ?_
    refine z_iast 0 C hz hS a4 (by decide) (Nat.le_of_ble_eq_true rfl) (by omega) dX7_family_6 (fun H locs f6 a7 k8 hz hS => ?_)
    refine lv_dup hx hb dX7_family_7 rfl ?_
    refine lv_iconst (v := 1) hx hb dX7_family_8 (by decide) ?_
    refine lv_iload_n hx hb dX7_family_9 rfl (lv_at hl 2 rfl) ?_
    refine z_iast 1 C hz hS a7 (by decide) (Nat.le_of_ble_eq_true rfl) (by omega) dX7_family_10 (fun H locs f9 a10 k11 hz hS => ?_)
    refine lv_dup hx hb dX7_family_11 rfl ?_
    refine lv_iconst (v := 2) hx hb dX7_family_12 (by decide) ?_
    refine lv_iload_n hx hb dX7_family_13 rfl (lv_at hl 3 rfl) ?_
    refine z_iast 2 C hz hS a10 (by decide) (Nat.le_of_ble_eq_true rfl) (by omega) dX7_family_14 (fun H locs f12 a13 k14 hz hS => ?_)
    refine lv_dup hx hb dX7_family_15 rfl ?_
    refine lv_iconst (v := 3) hx hb dX7_family_16 (by decide) ?_
    refine lv_iload hx hb dX7_family_17 (lv_at hl 4 rfl) ?_
    refine z_iast 3 C hz hS a13 (by decide) (Nat.le_of_ble_eq_true rfl) (by omega) dX7_family_19 (fun H locs f15 a16 k17 hz hS => ?_)
    refine lv_astore (lv' := [(5, .ref q1), (0, .ref o), (1, .int x), (2, .int y), (3, .int z), (4, .int v)]) hx hb dX7_family_20 hl (by decide) rfl (fun ls hl => ?_)
    refine lv_aload hx hb dX7_family_22 (lv_at hl 0 rfl) ?_
    refine z_callSi (As := [.ref q1]) C hz hS hA hl (k_X7_areKindsOnce l D cy f15 q1 (upd (upd (upd (upd (fun _ => 0) 0 x) 1 y) 2 z) 3 v) a16 ) zyX7_areKindsOnce mMX7_187 rfl rfl (Nat.le_of_ble_eq_true rfl) ⟨Nat.le_of_ble_eq_true rfl, Nat.le_of_ble_eq_true rfl⟩ ⟨Nat.le_of_ble_eq_true rfl, Nat.le_of_ble_eq_true rfl⟩ dX7_family_24 (fun r f18 H locs h19 hz hS => ?_)
    obtain ⟨rfl, k20⟩ := h19
    refine lv_topi (fun y21 e22 => ?_)
    obtain rfl : y21 = 1 := e22.trans (if_pos hk)
    refine lv_if_ne (tgt := 33) hx hb dX7_family_27 (by decide) (fun c23 => ?_) (fun c23 => ?_)
    rotate_left
    · exact absurd c23 (by decide)
    refine lv_aload_n hx hb dX7_family_33 rfl (lv_at hl 1 rfl) ?_
    have a24 : f3 o = some (.inr (7, [.ref fa, .ref fi, .ref nu, .int (nI nl), .ref fm, .int (nI nf), .ref co, .int (nI nc), .ref en, .ref ke, .long lk])) := (k5 _ (z_nn uq2 x_o)).trans x_o
    have a25 : f6 o = some (.inr (7, [.ref fa, .ref fi, .ref nu, .int (nI nl), .ref fm, .int (nI nf), .ref co, .int (nI nc), .ref en, .ref ke, .long lk])) := (k8 _ (z_nn uq2 x_o)).trans a24
    have a26 : f9 o = some (.inr (7, [.ref fa, .ref fi, .ref nu, .int (nI nl), .ref fm, .int (nI nf), .ref co, .int (nI nc), .ref en, .ref ke, .long lk])) := (k11 _ (z_nn uq2 x_o)).trans a25
    have a27 : f12 o = some (.inr (7, [.ref fa, .ref fi, .ref nu, .int (nI nl), .ref fm, .int (nI nf), .ref co, .int (nI nc), .ref en, .ref ke, .long lk])) := (k14 _ (z_nn uq2 x_o)).trans a26
    have a28 : f15 o = some (.inr (7, [.ref fa, .ref fi, .ref nu, .int (nI nl), .ref fm, .int (nI nf), .ref co, .int (nI nc), .ref en, .ref ke, .long lk])) := (k17 _ (z_nn uq2 x_o)).trans a27
    have a29 : f18 o = some (.inr (7, [.ref fa, .ref fi, .ref nu, .int (nI nl), .ref fm, .int (nI nf), .ref co, .int (nI nc), .ref en, .ref ke, .long lk])) := k20 _ _ a28 
    refine z_get (v := .int (nI nf)) C hz a29 zl7 mFX7_37 (by decide) rfl dX7_family_34 ?_
    refine lv_bipush (v := 6) hx hb dX7_family_37 (by decide) ?_
    refine lv_icmp_lt (tgt := 45) hx hb dX7_family_39 (by decide) (fun c30 => ?_) (fun c30 => ?_)
    · replace c30 : (nf < 6) := (nI_ltI (a := nf) (b := 6) (by omega) (by omega)).mp c30
      refine lv_aload_n hx hb dX7_family_45 rfl (lv_at hl 1 rfl) ?_
      refine z_get (v := .ref fm) C hz a29 zl7 mFX7_33 (by decide) rfl dX7_family_46 ?_
      refine lv_aload_n hx hb dX7_family_49 rfl (lv_at hl 1 rfl) ?_
      refine z_get (v := .int (nI nf)) C hz a29 zl7 mFX7_37 (by decide) rfl dX7_family_50 ?_
      refine z_new (fs := [.null, .int 0]) C hz hS hA zl3 mLX7_31 mIa_RX3 mIn_RX3 (by decide +kernel) (Nat.le_of_ble_eq_true rfl) (Nat.le_of_ble_eq_true rfl) dX7_family_53 (fun q31 H f33 uq32 a34 k35 hz hS => ?_)
      refine lv_dup hx hb dX7_family_56 rfl ?_
      refine lv_aload hx hb dX7_family_57 (lv_at hl 0 rfl) ?_
      have a36 : f18 q1 = some (.inl (cy 0, 4, .inl (upd (upd (upd (upd (fun _ => 0) 0 x) 1 y) 2 z) 3 v))) := k20 _ _ a16 
      have a37 : f33 q1 = some (.inl (cy 0, 4, .inl (upd (upd (upd (upd (fun _ => 0) 0 x) 1 y) 2 z) 3 v))) := (k35 _ (z_nn uq32 a36)).trans a36
      refine z_callIv (ret := none) (As := [.ref q1]) C hz hS hA hl (k_X3_init l D cy f33 q31 q1 (upd (upd (upd (upd (fun _ => 0) 0 x) 1 y) 2 z) 3 v) a34 a37 ) zyX3_init mMX7_191 rfl rfl (Nat.le_of_ble_eq_true rfl) ⟨Nat.le_of_ble_eq_true rfl, Nat.le_of_ble_eq_true rfl⟩ ⟨Nat.le_of_ble_eq_true rfl, Nat.le_of_ble_eq_true rfl⟩ dX7_family_59 (fun  f38 H locs h39 hz hS => ?_)
      obtain ⟨kq_40, zz_41, gz_42, p43, p44, p45, a46, a47, k48⟩ := h39
      have a49 : f3 fm = some (.inl (cy 4, 6, .inr (.inr (.inr (.inr gf))))) := (k5 _ (z_nn uq2 x_fm)).trans x_fm
      have a50 : f6 fm = some (.inl (cy 4, 6, .inr (.inr (.inr (.inr gf))))) := (k8 _ (z_nn uq2 x_fm)).trans a49
      have a51 : f9 fm = some (.inl (cy 4, 6, .inr (.inr (.inr (.inr gf))))) := (k11 _ (z_nn uq2 x_fm)).trans a50
      have a52 : f12 fm = some (.inl (cy 4, 6, .inr (.inr (.inr (.inr gf))))) := (k14 _ (z_nn uq2 x_fm)).trans a51
      have a53 : f15 fm = some (.inl (cy 4, 6, .inr (.inr (.inr (.inr gf))))) := (k17 _ (z_nn uq2 x_fm)).trans a52
      have a54 : f18 fm = some (.inl (cy 4, 6, .inr (.inr (.inr (.inr gf))))) := k20 _ _ a53 
      have a55 : f33 fm = some (.inl (cy 4, 6, .inr (.inr (.inr (.inr gf))))) := (k35 _ (z_nn uq32 a54)).trans a54
      have a56 : f38 fm = some (.inl (cy 4, 6, .inr (.inr (.inr (.inr gf))))) := k48 _ _ a55 (z_nn uq32 a54)
      refine z_astq nf C hz hS a56 rfl a46 zl3 rfl (by omega) (by omega) dX7_family_62 (fun H locs f57 a58 k59 hz hS => ?_)
      refine lv_aload_n hx hb dX7_family_63 rfl (lv_at hl 1 rfl) ?_
      refine lv_dup hx hb dX7_family_64 rfl ?_
      have a60 : f33 o = some (.inr (7, [.ref fa, .ref fi, .ref nu, .int (nI nl), .ref fm, .int (nI nf), .ref co, .int (nI nc), .ref en, .ref ke, .long lk])) := (k35 _ (z_nn uq32 a29)).trans a29
      have a61 : f38 o = some (.inr (7, [.ref fa, .ref fi, .ref nu, .int (nI nl), .ref fm, .int (nI nf), .ref co, .int (nI nc), .ref en, .ref ke, .long lk])) := k48 _ _ a60 (z_nn uq32 a29)
      have a62 : f57 o = some (.inr (7, [.ref fa, .ref fi, .ref nu, .int (nI nl), .ref fm, .int (nI nf), .ref co, .int (nI nc), .ref en, .ref ke, .long lk])) := (k59 _ (z_ne a61 a56 rfl)).trans a61
      refine z_get (v := .int (nI nf)) C hz a62 zl7 mFX7_37 (by decide) rfl dX7_family_65 ?_
      refine lv_iconst (v := 1) hx hb dX7_family_68 (by decide) ?_
      refine lv_iadd hx hb dX7_family_69 ?_
      refine lv_topi (fun y63 e64 => ?_)
      obtain rfl : y63 = nI (nf + 1) := e64.trans (nI_1 nf)
      refine z_put (fs' := [.ref fa, .ref fi, .ref nu, .int (nI nl), .ref fm, .int (nI (nf + 1)), .ref co, .int (nI nc), .ref en, .ref ke, .long lk]) C hz hS a62 zl7 mFX7_37 (by decide) rfl rfl rfl (Nat.le_of_ble_eq_true rfl) rfl dX7_family_70 (fun H locs f65 a66 k67 hz hS => ?_)
      refine lv_aload_n hx hb dX7_family_73 rfl (lv_at hl 1 rfl) ?_
      refine z_get (v := .int (nI (nf + 1))) C hz a66 zl7 mFX7_37 (by decide) rfl dX7_family_74 ?_
      refine lv_iconst (v := 1) hx hb dX7_family_77 (by decide) ?_
      refine lv_isub hx hb dX7_family_78 ?_
      refine lv_topi (fun y68 e69 => ?_)
      obtain rfl : y68 = nI nf := e69.trans (pk_sub (a := nf + 1) (b := 1) (by omega))
      have F70 : ∀ i9 : Nat, i9 < nf → f3 (fq i9) = some (.inr (3, [.ref (fk i9), .int (nI (fz i9))])) := fun i9 h9 => (k5 _ (z_nn uq2 (hFq i9 h9))).trans (hFq i9 h9)
      have F71 : ∀ i9 : Nat, i9 < nf → f6 (fq i9) = some (.inr (3, [.ref (fk i9), .int (nI (fz i9))])) := fun i9 h9 => (k8 _ (z_nn uq2 (hFq i9 h9))).trans (F70 i9 h9)
      have F72 : ∀ i9 : Nat, i9 < nf → f9 (fq i9) = some (.inr (3, [.ref (fk i9), .int (nI (fz i9))])) := fun i9 h9 => (k11 _ (z_nn uq2 (hFq i9 h9))).trans (F71 i9 h9)
      have F73 : ∀ i9 : Nat, i9 < nf → f12 (fq i9) = some (.inr (3, [.ref (fk i9), .int (nI (fz i9))])) := fun i9 h9 => (k14 _ (z_nn uq2 (hFq i9 h9))).trans (F72 i9 h9)
      have F74 : ∀ i9 : Nat, i9 < nf → f15 (fq i9) = some (.inr (3, [.ref (fk i9), .int (nI (fz i9))])) := fun i9 h9 => (k17 _ (z_nn uq2 (hFq i9 h9))).trans (F73 i9 h9)
      have F75 : ∀ i9 : Nat, i9 < nf → f18 (fq i9) = some (.inr (3, [.ref (fk i9), .int (nI (fz i9))])) := fun i9 h9 => k20 _ _ (F74 i9 h9) 
      have F76 : ∀ i9 : Nat, i9 < nf → f33 (fq i9) = some (.inr (3, [.ref (fk i9), .int (nI (fz i9))])) := fun i9 h9 => (k35 _ (z_nn uq32 (F75 i9 h9))).trans (F75 i9 h9)
      have F77 : ∀ i9 : Nat, i9 < nf → f38 (fq i9) = some (.inr (3, [.ref (fk i9), .int (nI (fz i9))])) := fun i9 h9 => k48 _ _ (F76 i9 h9) (z_nn uq32 (F75 i9 h9))
      have F78 : ∀ i9 : Nat, i9 < nf → f57 (fq i9) = some (.inr (3, [.ref (fk i9), .int (nI (fz i9))])) := fun i9 h9 => (k59 _ (z_ne (F77 i9 h9) a56 rfl)).trans (F77 i9 h9)
      have F79 : ∀ i9 : Nat, i9 < nf → f65 (fq i9) = some (.inr (3, [.ref (fk i9), .int (nI (fz i9))])) := fun i9 h9 => (k67 _ (z_ne (F78 i9 h9) a62 rfl)).trans (F78 i9 h9)
      have a80 : f57 q31 = some (.inr (3, [.ref kq_40, .int (nI zz_41)])) := (k59 _ (Ne.symm (z_nn uq32 a54))).trans a46
      have a81 : f65 q31 = some (.inr (3, [.ref kq_40, .int (nI zz_41)])) := (k67 _ (Ne.symm (z_nn uq32 a29))).trans a80
      have F82 : ∀ i9 : Nat, i9 < (nf + 1) → f65 ((va_up fq nf q31) i9) = some (.inr (3, [.ref (va_up fk nf kq_40 i9), .int (nI (va_up fz nf zz_41 i9))])) := z_famP (n := nf) (T := fun i9 => .inr (3, [.ref (fk i9), .int (nI (fz i9))])) (T' := fun i9 => .inr (3, [.ref (va_up fk nf kq_40 i9), .int (nI (va_up fz nf zz_41 i9))])) F79 (by simp only [va_up_self]; exact a81) (fun i9 h9 => va_up_ne _ _ (by omega)) (va_up_self _ _ _) (fun i9 h9 => by simp only [va_up_ne _ _ (show i9 ≠ nf by omega)])
      have F83 : ∀ i9 : Nat, i9 < nf → f3 (fk i9) = some (.inl (cy 0, 4, .inl (fc i9))) := fun i9 h9 => (k5 _ (z_nn uq2 (hFk i9 h9))).trans (hFk i9 h9)
      have F84 : ∀ i9 : Nat, i9 < nf → f6 (fk i9) = some (.inl (cy 0, 4, .inl (fc i9))) := fun i9 h9 => (k8 _ (z_nn uq2 (hFk i9 h9))).trans (F83 i9 h9)
      have F85 : ∀ i9 : Nat, i9 < nf → f9 (fk i9) = some (.inl (cy 0, 4, .inl (fc i9))) := fun i9 h9 => (k11 _ (z_nn uq2 (hFk i9 h9))).trans (F84 i9 h9)
      have F86 : ∀ i9 : Nat, i9 < nf → f12 (fk i9) = some (.inl (cy 0, 4, .inl (fc i9))) := fun i9 h9 => (k14 _ (z_nn uq2 (hFk i9 h9))).trans (F85 i9 h9)
      have F87 : ∀ i9 : Nat, i9 < nf → f15 (fk i9) = some (.inl (cy 0, 4, .inl (fc i9))) := fun i9 h9 => (k17 _ (z_nn uq2 (hFk i9 h9))).trans (F86 i9 h9)
      have F88 : ∀ i9 : Nat, i9 < nf → f18 (fk i9) = some (.inl (cy 0, 4, .inl (fc i9))) := fun i9 h9 => k20 _ _ (F87 i9 h9) 
      have F89 : ∀ i9 : Nat, i9 < nf → f33 (fk i9) = some (.inl (cy 0, 4, .inl (fc i9))) := fun i9 h9 => (k35 _ (z_nn uq32 (F88 i9 h9))).trans (F88 i9 h9)
      have F90 : ∀ i9 : Nat, i9 < nf → f38 (fk i9) = some (.inl (cy 0, 4, .inl (fc i9))) := fun i9 h9 => k48 _ _ (F89 i9 h9) (z_nn uq32 (F88 i9 h9))
      have F91 : ∀ i9 : Nat, i9 < nf → f57 (fk i9) = some (.inl (cy 0, 4, .inl (fc i9))) := fun i9 h9 => (k59 _ (z_ne (F90 i9 h9) a56 rfl)).trans (F90 i9 h9)
      have F92 : ∀ i9 : Nat, i9 < nf → f65 (fk i9) = some (.inl (cy 0, 4, .inl (fc i9))) := fun i9 h9 => (k67 _ (z_ne (F91 i9 h9) a62 rfl)).trans (F91 i9 h9)
      have a93 : f57 kq_40 = some (.inl (cy 0, 4, .inl gz_42)) := (k59 _ (z_ne a47 a56 rfl)).trans a47
      have a94 : f65 kq_40 = some (.inl (cy 0, 4, .inl gz_42)) := (k67 _ (z_ne a93 a62 rfl)).trans a93
      have F95 : ∀ i9 : Nat, i9 < (nf + 1) → f65 ((va_up fk nf kq_40) i9) = some (.inl (cy 0, 4, .inl (va_up fc nf gz_42 i9))) := z_famP (n := nf) (T := fun i9 => .inl (cy 0, 4, .inl (fc i9))) (T' := fun i9 => .inl (cy 0, 4, .inl (va_up fc nf gz_42 i9))) F92 (by simp only [va_up_self]; exact a94) (fun i9 h9 => va_up_ne _ _ (by omega)) (va_up_self _ _ _) (fun i9 h9 => by simp only [va_up_ne _ _ (show i9 ≠ nf by omega)])
      have a96 : f3 fa = some (.inr (2, [.int u1, .int u2, .int u3, .ref ev])) := (k5 _ (z_nn uq2 x_fa)).trans x_fa
      have a97 : f6 fa = some (.inr (2, [.int u1, .int u2, .int u3, .ref ev])) := (k8 _ (z_nn uq2 x_fa)).trans a96
      have a98 : f9 fa = some (.inr (2, [.int u1, .int u2, .int u3, .ref ev])) := (k11 _ (z_nn uq2 x_fa)).trans a97
      have a99 : f12 fa = some (.inr (2, [.int u1, .int u2, .int u3, .ref ev])) := (k14 _ (z_nn uq2 x_fa)).trans a98
      have a100 : f15 fa = some (.inr (2, [.int u1, .int u2, .int u3, .ref ev])) := (k17 _ (z_nn uq2 x_fa)).trans a99
      have a101 : f18 fa = some (.inr (2, [.int u1, .int u2, .int u3, .ref ev])) := k20 _ _ a100 
      have a102 : f33 fa = some (.inr (2, [.int u1, .int u2, .int u3, .ref ev])) := (k35 _ (z_nn uq32 a101)).trans a101
      have a103 : f38 fa = some (.inr (2, [.int u1, .int u2, .int u3, .ref ev])) := k48 _ _ a102 (z_nn uq32 a101)
      have a104 : f57 fa = some (.inr (2, [.int u1, .int u2, .int u3, .ref ev])) := (k59 _ (z_ne a103 a56 rfl)).trans a103
      have a105 : f65 fa = some (.inr (2, [.int u1, .int u2, .int u3, .ref ev])) := (k67 _ (z_ne a104 a62 rfl)).trans a104
      have a106 : f3 ev = some (.inl (cy 0, 8, .inl gv)) := (k5 _ (z_nn uq2 x_ev)).trans x_ev
      have a107 : f6 ev = some (.inl (cy 0, 8, .inl gv)) := (k8 _ (z_nn uq2 x_ev)).trans a106
      have a108 : f9 ev = some (.inl (cy 0, 8, .inl gv)) := (k11 _ (z_nn uq2 x_ev)).trans a107
      have a109 : f12 ev = some (.inl (cy 0, 8, .inl gv)) := (k14 _ (z_nn uq2 x_ev)).trans a108
      have a110 : f15 ev = some (.inl (cy 0, 8, .inl gv)) := (k17 _ (z_nn uq2 x_ev)).trans a109
      have a111 : f18 ev = some (.inl (cy 0, 8, .inl gv)) := k20 _ _ a110 
      have a112 : f33 ev = some (.inl (cy 0, 8, .inl gv)) := (k35 _ (z_nn uq32 a111)).trans a111
      have a113 : f38 ev = some (.inl (cy 0, 8, .inl gv)) := k48 _ _ a112 (z_nn uq32 a111)
      have a114 : f57 ev = some (.inl (cy 0, 8, .inl gv)) := (k59 _ (z_ne a113 a56 rfl)).trans a113
      have a115 : f65 ev = some (.inl (cy 0, 8, .inl gv)) := (k67 _ (z_ne a114 a62 rfl)).trans a114
      have a116 : f3 fi = some (.inr (5, [.ref al, .ref ra, .int (nI nn)])) := (k5 _ (z_nn uq2 x_fi)).trans x_fi
      have a117 : f6 fi = some (.inr (5, [.ref al, .ref ra, .int (nI nn)])) := (k8 _ (z_nn uq2 x_fi)).trans a116
      have a118 : f9 fi = some (.inr (5, [.ref al, .ref ra, .int (nI nn)])) := (k11 _ (z_nn uq2 x_fi)).trans a117
      have a119 : f12 fi = some (.inr (5, [.ref al, .ref ra, .int (nI nn)])) := (k14 _ (z_nn uq2 x_fi)).trans a118
      have a120 : f15 fi = some (.inr (5, [.ref al, .ref ra, .int (nI nn)])) := (k17 _ (z_nn uq2 x_fi)).trans a119
      have a121 : f18 fi = some (.inr (5, [.ref al, .ref ra, .int (nI nn)])) := k20 _ _ a120 
      have a122 : f33 fi = some (.inr (5, [.ref al, .ref ra, .int (nI nn)])) := (k35 _ (z_nn uq32 a121)).trans a121
      have a123 : f38 fi = some (.inr (5, [.ref al, .ref ra, .int (nI nn)])) := k48 _ _ a122 (z_nn uq32 a121)
      have a124 : f57 fi = some (.inr (5, [.ref al, .ref ra, .int (nI nn)])) := (k59 _ (z_ne a123 a56 rfl)).trans a123
      have a125 : f65 fi = some (.inr (5, [.ref al, .ref ra, .int (nI nn)])) := (k67 _ (z_ne a124 a62 rfl)).trans a124
      have a126 : f3 al = some (.inl (cy 3, 60, .inr (.inr (.inr (.inr ga))))) := (k5 _ (z_nn uq2 x_al)).trans x_al
      have a127 : f6 al = some (.inl (cy 3, 60, .inr (.inr (.inr (.inr ga))))) := (k8 _ (z_nn uq2 x_al)).trans a126
      have a128 : f9 al = some (.inl (cy 3, 60, .inr (.inr (.inr (.inr ga))))) := (k11 _ (z_nn uq2 x_al)).trans a127
      have a129 : f12 al = some (.inl (cy 3, 60, .inr (.inr (.inr (.inr ga))))) := (k14 _ (z_nn uq2 x_al)).trans a128
      have a130 : f15 al = some (.inl (cy 3, 60, .inr (.inr (.inr (.inr ga))))) := (k17 _ (z_nn uq2 x_al)).trans a129
      have a131 : f18 al = some (.inl (cy 3, 60, .inr (.inr (.inr (.inr ga))))) := k20 _ _ a130 
      have a132 : f33 al = some (.inl (cy 3, 60, .inr (.inr (.inr (.inr ga))))) := (k35 _ (z_nn uq32 a131)).trans a131
      have a133 : f38 al = some (.inl (cy 3, 60, .inr (.inr (.inr (.inr ga))))) := k48 _ _ a132 (z_nn uq32 a131)
      have a134 : f57 al = some (.inl (cy 3, 60, .inr (.inr (.inr (.inr ga))))) := (k59 _ (z_ne a133 a56 rfl)).trans a133
      have a135 : f65 al = some (.inl (cy 3, 60, .inr (.inr (.inr (.inr ga))))) := (k67 _ (z_ne a134 a62 rfl)).trans a134
      have a136 : f3 ra = some (.inl (cy 3, 60, .inr (.inr (.inr (.inr gr))))) := (k5 _ (z_nn uq2 x_ra)).trans x_ra
      have a137 : f6 ra = some (.inl (cy 3, 60, .inr (.inr (.inr (.inr gr))))) := (k8 _ (z_nn uq2 x_ra)).trans a136
      have a138 : f9 ra = some (.inl (cy 3, 60, .inr (.inr (.inr (.inr gr))))) := (k11 _ (z_nn uq2 x_ra)).trans a137
      have a139 : f12 ra = some (.inl (cy 3, 60, .inr (.inr (.inr (.inr gr))))) := (k14 _ (z_nn uq2 x_ra)).trans a138
      have a140 : f15 ra = some (.inl (cy 3, 60, .inr (.inr (.inr (.inr gr))))) := (k17 _ (z_nn uq2 x_ra)).trans a139
      have a141 : f18 ra = some (.inl (cy 3, 60, .inr (.inr (.inr (.inr gr))))) := k20 _ _ a140 
      have a142 : f33 ra = some (.inl (cy 3, 60, .inr (.inr (.inr (.inr gr))))) := (k35 _ (z_nn uq32 a141)).trans a141
      have a143 : f38 ra = some (.inl (cy 3, 60, .inr (.inr (.inr (.inr gr))))) := k48 _ _ a142 (z_nn uq32 a141)
      have a144 : f57 ra = some (.inl (cy 3, 60, .inr (.inr (.inr (.inr gr))))) := (k59 _ (z_ne a143 a56 rfl)).trans a143
      have a145 : f65 ra = some (.inl (cy 3, 60, .inr (.inr (.inr (.inr gr))))) := (k67 _ (z_ne a144 a62 rfl)).trans a144
      have a146 : f3 nu = some (.inl (cy 0, 12, .inl gu)) := (k5 _ (z_nn uq2 x_nu)).trans x_nu
      have a147 : f6 nu = some (.inl (cy 0, 12, .inl gu)) := (k8 _ (z_nn uq2 x_nu)).trans a146
      have a148 : f9 nu = some (.inl (cy 0, 12, .inl gu)) := (k11 _ (z_nn uq2 x_nu)).trans a147
      have a149 : f12 nu = some (.inl (cy 0, 12, .inl gu)) := (k14 _ (z_nn uq2 x_nu)).trans a148
      have a150 : f15 nu = some (.inl (cy 0, 12, .inl gu)) := (k17 _ (z_nn uq2 x_nu)).trans a149
      have a151 : f18 nu = some (.inl (cy 0, 12, .inl gu)) := k20 _ _ a150 
      have a152 : f33 nu = some (.inl (cy 0, 12, .inl gu)) := (k35 _ (z_nn uq32 a151)).trans a151
      have a153 : f38 nu = some (.inl (cy 0, 12, .inl gu)) := k48 _ _ a152 (z_nn uq32 a151)
      have a154 : f57 nu = some (.inl (cy 0, 12, .inl gu)) := (k59 _ (z_ne a153 a56 rfl)).trans a153
      have a155 : f65 nu = some (.inl (cy 0, 12, .inl gu)) := (k67 _ (z_ne a154 a62 rfl)).trans a154
      have a156 : f65 fm = some (.inl (cy 4, 6, .inr (.inr (.inr (.inr (va_up gf nf (some q31))))))) := (k67 _ (z_ne a58 a62 rfl)).trans a58
      have a157 : f3 co = some (.inl (cy 5, 60, .inr (.inr (.inr (.inr gc))))) := (k5 _ (z_nn uq2 x_co)).trans x_co
      have a158 : f6 co = some (.inl (cy 5, 60, .inr (.inr (.inr (.inr gc))))) := (k8 _ (z_nn uq2 x_co)).trans a157
      have a159 : f9 co = some (.inl (cy 5, 60, .inr (.inr (.inr (.inr gc))))) := (k11 _ (z_nn uq2 x_co)).trans a158
      have a160 : f12 co = some (.inl (cy 5, 60, .inr (.inr (.inr (.inr gc))))) := (k14 _ (z_nn uq2 x_co)).trans a159
      have a161 : f15 co = some (.inl (cy 5, 60, .inr (.inr (.inr (.inr gc))))) := (k17 _ (z_nn uq2 x_co)).trans a160
      have a162 : f18 co = some (.inl (cy 5, 60, .inr (.inr (.inr (.inr gc))))) := k20 _ _ a161 
      have a163 : f33 co = some (.inl (cy 5, 60, .inr (.inr (.inr (.inr gc))))) := (k35 _ (z_nn uq32 a162)).trans a162
      have a164 : f38 co = some (.inl (cy 5, 60, .inr (.inr (.inr (.inr gc))))) := k48 _ _ a163 (z_nn uq32 a162)
      have a165 : f57 co = some (.inl (cy 5, 60, .inr (.inr (.inr (.inr gc))))) := (k59 _ (z_ne a164 a56 rfl)).trans a164
      have a166 : f65 co = some (.inl (cy 5, 60, .inr (.inr (.inr (.inr gc))))) := (k67 _ (z_ne a165 a62 rfl)).trans a165
      have a167 : f3 en = some (.inl (cy 6, 4, .inr (.inr (.inr (.inr ge))))) := (k5 _ (z_nn uq2 x_en)).trans x_en
      have a168 : f6 en = some (.inl (cy 6, 4, .inr (.inr (.inr (.inr ge))))) := (k8 _ (z_nn uq2 x_en)).trans a167
      have a169 : f9 en = some (.inl (cy 6, 4, .inr (.inr (.inr (.inr ge))))) := (k11 _ (z_nn uq2 x_en)).trans a168
      have a170 : f12 en = some (.inl (cy 6, 4, .inr (.inr (.inr (.inr ge))))) := (k14 _ (z_nn uq2 x_en)).trans a169
      have a171 : f15 en = some (.inl (cy 6, 4, .inr (.inr (.inr (.inr ge))))) := (k17 _ (z_nn uq2 x_en)).trans a170
      have a172 : f18 en = some (.inl (cy 6, 4, .inr (.inr (.inr (.inr ge))))) := k20 _ _ a171 
      have a173 : f33 en = some (.inl (cy 6, 4, .inr (.inr (.inr (.inr ge))))) := (k35 _ (z_nn uq32 a172)).trans a172
      have a174 : f38 en = some (.inl (cy 6, 4, .inr (.inr (.inr (.inr ge))))) := k48 _ _ a173 (z_nn uq32 a172)
      have a175 : f57 en = some (.inl (cy 6, 4, .inr (.inr (.inr (.inr ge))))) := (k59 _ (z_ne a174 a56 rfl)).trans a174
      have a176 : f65 en = some (.inl (cy 6, 4, .inr (.inr (.inr (.inr ge))))) := (k67 _ (z_ne a175 a62 rfl)).trans a175
      have a177 : f3 ke = some (.inr (6, [.ref kn, .ref vq, .int (nI ks)])) := (k5 _ (z_nn uq2 x_ke)).trans x_ke
      have a178 : f6 ke = some (.inr (6, [.ref kn, .ref vq, .int (nI ks)])) := (k8 _ (z_nn uq2 x_ke)).trans a177
      have a179 : f9 ke = some (.inr (6, [.ref kn, .ref vq, .int (nI ks)])) := (k11 _ (z_nn uq2 x_ke)).trans a178
      have a180 : f12 ke = some (.inr (6, [.ref kn, .ref vq, .int (nI ks)])) := (k14 _ (z_nn uq2 x_ke)).trans a179
      have a181 : f15 ke = some (.inr (6, [.ref kn, .ref vq, .int (nI ks)])) := (k17 _ (z_nn uq2 x_ke)).trans a180
      have a182 : f18 ke = some (.inr (6, [.ref kn, .ref vq, .int (nI ks)])) := k20 _ _ a181 
      have a183 : f33 ke = some (.inr (6, [.ref kn, .ref vq, .int (nI ks)])) := (k35 _ (z_nn uq32 a182)).trans a182
      have a184 : f38 ke = some (.inr (6, [.ref kn, .ref vq, .int (nI ks)])) := k48 _ _ a183 (z_nn uq32 a182)
      have a185 : f57 ke = some (.inr (6, [.ref kn, .ref vq, .int (nI ks)])) := (k59 _ (z_ne a184 a56 rfl)).trans a184
      have a186 : f65 ke = some (.inr (6, [.ref kn, .ref vq, .int (nI ks)])) := (k67 _ (z_ne a185 a62 rfl)).trans a185
      have a187 : f3 kn = some (.inl (cy 0, 40, .inl kk)) := (k5 _ (z_nn uq2 x_kn)).trans x_kn
      have a188 : f6 kn = some (.inl (cy 0, 40, .inl kk)) := (k8 _ (z_nn uq2 x_kn)).trans a187
      have a189 : f9 kn = some (.inl (cy 0, 40, .inl kk)) := (k11 _ (z_nn uq2 x_kn)).trans a188
      have a190 : f12 kn = some (.inl (cy 0, 40, .inl kk)) := (k14 _ (z_nn uq2 x_kn)).trans a189
      have a191 : f15 kn = some (.inl (cy 0, 40, .inl kk)) := (k17 _ (z_nn uq2 x_kn)).trans a190
      have a192 : f18 kn = some (.inl (cy 0, 40, .inl kk)) := k20 _ _ a191 
      have a193 : f33 kn = some (.inl (cy 0, 40, .inl kk)) := (k35 _ (z_nn uq32 a192)).trans a192
      have a194 : f38 kn = some (.inl (cy 0, 40, .inl kk)) := k48 _ _ a193 (z_nn uq32 a192)
      have a195 : f57 kn = some (.inl (cy 0, 40, .inl kk)) := (k59 _ (z_ne a194 a56 rfl)).trans a194
      have a196 : f65 kn = some (.inl (cy 0, 40, .inl kk)) := (k67 _ (z_ne a195 a62 rfl)).trans a195
      have a197 : f3 vq = some (.inl (cy 0, 40, .inl kv)) := (k5 _ (z_nn uq2 x_vq)).trans x_vq
      have a198 : f6 vq = some (.inl (cy 0, 40, .inl kv)) := (k8 _ (z_nn uq2 x_vq)).trans a197
      have a199 : f9 vq = some (.inl (cy 0, 40, .inl kv)) := (k11 _ (z_nn uq2 x_vq)).trans a198
      have a200 : f12 vq = some (.inl (cy 0, 40, .inl kv)) := (k14 _ (z_nn uq2 x_vq)).trans a199
      have a201 : f15 vq = some (.inl (cy 0, 40, .inl kv)) := (k17 _ (z_nn uq2 x_vq)).trans a200
      have a202 : f18 vq = some (.inl (cy 0, 40, .inl kv)) := k20 _ _ a201 
      have a203 : f33 vq = some (.inl (cy 0, 40, .inl kv)) := (k35 _ (z_nn uq32 a202)).trans a202
      have a204 : f38 vq = some (.inl (cy 0, 40, .inl kv)) := k48 _ _ a203 (z_nn uq32 a202)
      have a205 : f57 vq = some (.inl (cy 0, 40, .inl kv)) := (k59 _ (z_ne a204 a56 rfl)).trans a204
      have a206 : f65 vq = some (.inl (cy 0, 40, .inl kv)) := (k67 _ (z_ne a205 a62 rfl)).trans a205
      have F207 : ∀ i9 : Nat, i9 < nn → f3 (fg i9) = some (.inr (4, [.int (kd i9), .ref (pt i9), .long (wg i9), .int (wd i9), .int (nI i9), .int (hs i9), .int (bf i9)])) := fun i9 h9 => (k5 _ (z_nn uq2 (hF i9 h9))).trans (hF i9 h9)
      have F208 : ∀ i9 : Nat, i9 < nn → f6 (fg i9) = some (.inr (4, [.int (kd i9), .ref (pt i9), .long (wg i9), .int (wd i9), .int (nI i9), .int (hs i9), .int (bf i9)])) := fun i9 h9 => (k8 _ (z_nn uq2 (hF i9 h9))).trans (F207 i9 h9)
      have F209 : ∀ i9 : Nat, i9 < nn → f9 (fg i9) = some (.inr (4, [.int (kd i9), .ref (pt i9), .long (wg i9), .int (wd i9), .int (nI i9), .int (hs i9), .int (bf i9)])) := fun i9 h9 => (k11 _ (z_nn uq2 (hF i9 h9))).trans (F208 i9 h9)
      have F210 : ∀ i9 : Nat, i9 < nn → f12 (fg i9) = some (.inr (4, [.int (kd i9), .ref (pt i9), .long (wg i9), .int (wd i9), .int (nI i9), .int (hs i9), .int (bf i9)])) := fun i9 h9 => (k14 _ (z_nn uq2 (hF i9 h9))).trans (F209 i9 h9)
      have F211 : ∀ i9 : Nat, i9 < nn → f15 (fg i9) = some (.inr (4, [.int (kd i9), .ref (pt i9), .long (wg i9), .int (wd i9), .int (nI i9), .int (hs i9), .int (bf i9)])) := fun i9 h9 => (k17 _ (z_nn uq2 (hF i9 h9))).trans (F210 i9 h9)
      have F212 : ∀ i9 : Nat, i9 < nn → f18 (fg i9) = some (.inr (4, [.int (kd i9), .ref (pt i9), .long (wg i9), .int (wd i9), .int (nI i9), .int (hs i9), .int (bf i9)])) := fun i9 h9 => k20 _ _ (F211 i9 h9) 
      have F213 : ∀ i9 : Nat, i9 < nn → f33 (fg i9) = some (.inr (4, [.int (kd i9), .ref (pt i9), .long (wg i9), .int (wd i9), .int (nI i9), .int (hs i9), .int (bf i9)])) := fun i9 h9 => (k35 _ (z_nn uq32 (F212 i9 h9))).trans (F212 i9 h9)
      have F214 : ∀ i9 : Nat, i9 < nn → f38 (fg i9) = some (.inr (4, [.int (kd i9), .ref (pt i9), .long (wg i9), .int (wd i9), .int (nI i9), .int (hs i9), .int (bf i9)])) := fun i9 h9 => k48 _ _ (F213 i9 h9) (z_nn uq32 (F212 i9 h9))
      have F215 : ∀ i9 : Nat, i9 < nn → f57 (fg i9) = some (.inr (4, [.int (kd i9), .ref (pt i9), .long (wg i9), .int (wd i9), .int (nI i9), .int (hs i9), .int (bf i9)])) := fun i9 h9 => (k59 _ (z_ne (F214 i9 h9) a56 rfl)).trans (F214 i9 h9)
      have F216 : ∀ i9 : Nat, i9 < nn → f65 (fg i9) = some (.inr (4, [.int (kd i9), .ref (pt i9), .long (wg i9), .int (wd i9), .int (nI i9), .int (hs i9), .int (bf i9)])) := fun i9 h9 => (k67 _ (z_ne (F215 i9 h9) a62 rfl)).trans (F215 i9 h9)
      have F217 : ∀ i9 : Nat, i9 < nn → f3 (pt i9) = some (.inl (cy 1, (ln i9), .inr (.inl (pp i9)))) := fun i9 h9 => (k5 _ (z_nn uq2 (hP i9 h9))).trans (hP i9 h9)
      have F218 : ∀ i9 : Nat, i9 < nn → f6 (pt i9) = some (.inl (cy 1, (ln i9), .inr (.inl (pp i9)))) := fun i9 h9 => (k8 _ (z_nn uq2 (hP i9 h9))).trans (F217 i9 h9)
      have F219 : ∀ i9 : Nat, i9 < nn → f9 (pt i9) = some (.inl (cy 1, (ln i9), .inr (.inl (pp i9)))) := fun i9 h9 => (k11 _ (z_nn uq2 (hP i9 h9))).trans (F218 i9 h9)
      have F220 : ∀ i9 : Nat, i9 < nn → f12 (pt i9) = some (.inl (cy 1, (ln i9), .inr (.inl (pp i9)))) := fun i9 h9 => (k14 _ (z_nn uq2 (hP i9 h9))).trans (F219 i9 h9)
      have F221 : ∀ i9 : Nat, i9 < nn → f15 (pt i9) = some (.inl (cy 1, (ln i9), .inr (.inl (pp i9)))) := fun i9 h9 => (k17 _ (z_nn uq2 (hP i9 h9))).trans (F220 i9 h9)
      have F222 : ∀ i9 : Nat, i9 < nn → f18 (pt i9) = some (.inl (cy 1, (ln i9), .inr (.inl (pp i9)))) := fun i9 h9 => k20 _ _ (F221 i9 h9) 
      have F223 : ∀ i9 : Nat, i9 < nn → f33 (pt i9) = some (.inl (cy 1, (ln i9), .inr (.inl (pp i9)))) := fun i9 h9 => (k35 _ (z_nn uq32 (F222 i9 h9))).trans (F222 i9 h9)
      have F224 : ∀ i9 : Nat, i9 < nn → f38 (pt i9) = some (.inl (cy 1, (ln i9), .inr (.inl (pp i9)))) := fun i9 h9 => k48 _ _ (F223 i9 h9) (z_nn uq32 (F222 i9 h9))
      have F225 : ∀ i9 : Nat, i9 < nn → f57 (pt i9) = some (.inl (cy 1, (ln i9), .inr (.inl (pp i9)))) := fun i9 h9 => (k59 _ (z_neA (F224 i9 h9) a56 rfl)).trans (F224 i9 h9)
      have F226 : ∀ i9 : Nat, i9 < nn → f65 (pt i9) = some (.inl (cy 1, (ln i9), .inr (.inl (pp i9)))) := fun i9 h9 => (k67 _ (z_neO (F225 i9 h9) a62 rfl)).trans (F225 i9 h9)
      have F227 : ∀ i9 : Nat, i9 < nc → f3 (cn i9) = some (.inr (0, [.int (ce i9), .int (cm i9)])) := fun i9 h9 => (k5 _ (z_nn uq2 (hCn i9 h9))).trans (hCn i9 h9)
      have F228 : ∀ i9 : Nat, i9 < nc → f6 (cn i9) = some (.inr (0, [.int (ce i9), .int (cm i9)])) := fun i9 h9 => (k8 _ (z_nn uq2 (hCn i9 h9))).trans (F227 i9 h9)
      have F229 : ∀ i9 : Nat, i9 < nc → f9 (cn i9) = some (.inr (0, [.int (ce i9), .int (cm i9)])) := fun i9 h9 => (k11 _ (z_nn uq2 (hCn i9 h9))).trans (F228 i9 h9)
      have F230 : ∀ i9 : Nat, i9 < nc → f12 (cn i9) = some (.inr (0, [.int (ce i9), .int (cm i9)])) := fun i9 h9 => (k14 _ (z_nn uq2 (hCn i9 h9))).trans (F229 i9 h9)
      have F231 : ∀ i9 : Nat, i9 < nc → f15 (cn i9) = some (.inr (0, [.int (ce i9), .int (cm i9)])) := fun i9 h9 => (k17 _ (z_nn uq2 (hCn i9 h9))).trans (F230 i9 h9)
      have F232 : ∀ i9 : Nat, i9 < nc → f18 (cn i9) = some (.inr (0, [.int (ce i9), .int (cm i9)])) := fun i9 h9 => k20 _ _ (F231 i9 h9) 
      have F233 : ∀ i9 : Nat, i9 < nc → f33 (cn i9) = some (.inr (0, [.int (ce i9), .int (cm i9)])) := fun i9 h9 => (k35 _ (z_nn uq32 (F232 i9 h9))).trans (F232 i9 h9)
      have F234 : ∀ i9 : Nat, i9 < nc → f38 (cn i9) = some (.inr (0, [.int (ce i9), .int (cm i9)])) := fun i9 h9 => k48 _ _ (F233 i9 h9) (z_nn uq32 (F232 i9 h9))
      have F235 : ∀ i9 : Nat, i9 < nc → f57 (cn i9) = some (.inr (0, [.int (ce i9), .int (cm i9)])) := fun i9 h9 => (k59 _ (z_ne (F234 i9 h9) a56 rfl)).trans (F234 i9 h9)
      have F236 : ∀ i9 : Nat, i9 < nc → f65 (cn i9) = some (.inr (0, [.int (ce i9), .int (cm i9)])) := fun i9 h9 => (k67 _ (z_ne (F235 i9 h9) a62 rfl)).trans (F235 i9 h9)
      have F237 : ∀ i9 : Nat, i9 < 4 → f3 (ea i9) = some (.inr (1, [.ref (ma i9), .int (nI (sq i9))])) := fun i9 h9 => (k5 _ (z_nn uq2 (hEa i9 h9))).trans (hEa i9 h9)
      have F238 : ∀ i9 : Nat, i9 < 4 → f6 (ea i9) = some (.inr (1, [.ref (ma i9), .int (nI (sq i9))])) := fun i9 h9 => (k8 _ (z_nn uq2 (hEa i9 h9))).trans (F237 i9 h9)
      have F239 : ∀ i9 : Nat, i9 < 4 → f9 (ea i9) = some (.inr (1, [.ref (ma i9), .int (nI (sq i9))])) := fun i9 h9 => (k11 _ (z_nn uq2 (hEa i9 h9))).trans (F238 i9 h9)
      have F240 : ∀ i9 : Nat, i9 < 4 → f12 (ea i9) = some (.inr (1, [.ref (ma i9), .int (nI (sq i9))])) := fun i9 h9 => (k14 _ (z_nn uq2 (hEa i9 h9))).trans (F239 i9 h9)
      have F241 : ∀ i9 : Nat, i9 < 4 → f15 (ea i9) = some (.inr (1, [.ref (ma i9), .int (nI (sq i9))])) := fun i9 h9 => (k17 _ (z_nn uq2 (hEa i9 h9))).trans (F240 i9 h9)
      have F242 : ∀ i9 : Nat, i9 < 4 → f18 (ea i9) = some (.inr (1, [.ref (ma i9), .int (nI (sq i9))])) := fun i9 h9 => k20 _ _ (F241 i9 h9) 
      have F243 : ∀ i9 : Nat, i9 < 4 → f33 (ea i9) = some (.inr (1, [.ref (ma i9), .int (nI (sq i9))])) := fun i9 h9 => (k35 _ (z_nn uq32 (F242 i9 h9))).trans (F242 i9 h9)
      have F244 : ∀ i9 : Nat, i9 < 4 → f38 (ea i9) = some (.inr (1, [.ref (ma i9), .int (nI (sq i9))])) := fun i9 h9 => k48 _ _ (F243 i9 h9) (z_nn uq32 (F242 i9 h9))
      have F245 : ∀ i9 : Nat, i9 < 4 → f57 (ea i9) = some (.inr (1, [.ref (ma i9), .int (nI (sq i9))])) := fun i9 h9 => (k59 _ (z_ne (F244 i9 h9) a56 rfl)).trans (F244 i9 h9)
      have F246 : ∀ i9 : Nat, i9 < 4 → f65 (ea i9) = some (.inr (1, [.ref (ma i9), .int (nI (sq i9))])) := fun i9 h9 => (k67 _ (z_ne (F245 i9 h9) a62 rfl)).trans (F245 i9 h9)
      have F247 : ∀ i9 : Nat, i9 < 4 → f3 (ma i9) = some (.inl (cy 0, 60, .inl (mb i9))) := fun i9 h9 => (k5 _ (z_nn uq2 (hMa i9 h9))).trans (hMa i9 h9)
      have F248 : ∀ i9 : Nat, i9 < 4 → f6 (ma i9) = some (.inl (cy 0, 60, .inl (mb i9))) := fun i9 h9 => (k8 _ (z_nn uq2 (hMa i9 h9))).trans (F247 i9 h9)
      have F249 : ∀ i9 : Nat, i9 < 4 → f9 (ma i9) = some (.inl (cy 0, 60, .inl (mb i9))) := fun i9 h9 => (k11 _ (z_nn uq2 (hMa i9 h9))).trans (F248 i9 h9)
      have F250 : ∀ i9 : Nat, i9 < 4 → f12 (ma i9) = some (.inl (cy 0, 60, .inl (mb i9))) := fun i9 h9 => (k14 _ (z_nn uq2 (hMa i9 h9))).trans (F249 i9 h9)
      have F251 : ∀ i9 : Nat, i9 < 4 → f15 (ma i9) = some (.inl (cy 0, 60, .inl (mb i9))) := fun i9 h9 => (k17 _ (z_nn uq2 (hMa i9 h9))).trans (F250 i9 h9)
      have F252 : ∀ i9 : Nat, i9 < 4 → f18 (ma i9) = some (.inl (cy 0, 60, .inl (mb i9))) := fun i9 h9 => k20 _ _ (F251 i9 h9) 
      have F253 : ∀ i9 : Nat, i9 < 4 → f33 (ma i9) = some (.inl (cy 0, 60, .inl (mb i9))) := fun i9 h9 => (k35 _ (z_nn uq32 (F252 i9 h9))).trans (F252 i9 h9)
      have F254 : ∀ i9 : Nat, i9 < 4 → f38 (ma i9) = some (.inl (cy 0, 60, .inl (mb i9))) := fun i9 h9 => k48 _ _ (F253 i9 h9) (z_nn uq32 (F252 i9 h9))
      have F255 : ∀ i9 : Nat, i9 < 4 → f57 (ma i9) = some (.inl (cy 0, 60, .inl (mb i9))) := fun i9 h9 => (k59 _ (z_ne (F254 i9 h9) a56 rfl)).trans (F254 i9 h9)
      have F256 : ∀ i9 : Nat, i9 < 4 → f65 (ma i9) = some (.inl (cy 0, 60, .inl (mb i9))) := fun i9 h9 => (k67 _ (z_ne (F255 i9 h9) a62 rfl)).trans (F255 i9 h9)
      exact z_iret C hr rfl hz hS ⟨u1, u2, u3, gv, nl, gu, nn, ga, gr, fg, pt, kd, ln, pp, wg, wd, hs, bf, (nf + 1), (va_up gf nf (some q31)), (va_up fq nf q31), (va_up fk nf kq_40), (va_up fz nf zz_41), (va_up fc nf gz_42), nc, gc, cn, ce, cm, sq, mb, ks, kk, kv, lk, (by show _ = q_family nf (zks (upd (upd (upd (upd (fun _ => 0) 0 x) 1 y) 2 z) 3 v) 4).isSome; rw [q_family, if_pos hk, if_pos c30]), rfl, rfl, rfl, rfl, rfl, rfl, rfl, rfl, rfl, rfl, rfl, rfl, (by rw [if_pos (nI_pos' (by omega))]), (by rw [if_pos (nI_pos' (by omega)), p44]; rfl), ⟨fun i9 h9 => va_up_ne _ _ (by omega), fun _ j9 _ => by rw [va_up_self, p45]; rfl⟩, rfl, rfl, rfl, rfl, rfl, rfl, rfl, rfl, rfl, ⟨a66, a105, a115, a125, a135, a145, a155, a156, a166, a176, a186, a196, a206, F216, F226, F82, F95, F236, F246, F256, hn60, hl12, (by omega), hc60, hs40, hga, hgr, hln, hk5, hk4, hfi, hpi, har, (z_ga1 hgf), (z_up1 (P := fun _ a9 => a9 ≤ 4) hfz p43), hgc, hG, hsq, hei, hmi, kne, hca, hcr, hlk⟩⟩ (Nat.le_of_ble_eq_true rfl) (Nat.le_of_ble_eq_true rfl) dX7_family_79
    · replace c30 : ¬ (nf < 6) := fun h => c30 ((nI_ltI (a := nf) (b := 6) (by omega) (by omega)).mpr h)
      refine lv_bipush (v := (-3)) hx hb dX7_family_42 (by decide) ?_
      have a257 : f3 fa = some (.inr (2, [.int u1, .int u2, .int u3, .ref ev])) := (k5 _ (z_nn uq2 x_fa)).trans x_fa
      have a258 : f6 fa = some (.inr (2, [.int u1, .int u2, .int u3, .ref ev])) := (k8 _ (z_nn uq2 x_fa)).trans a257
      have a259 : f9 fa = some (.inr (2, [.int u1, .int u2, .int u3, .ref ev])) := (k11 _ (z_nn uq2 x_fa)).trans a258
      have a260 : f12 fa = some (.inr (2, [.int u1, .int u2, .int u3, .ref ev])) := (k14 _ (z_nn uq2 x_fa)).trans a259
      have a261 : f15 fa = some (.inr (2, [.int u1, .int u2, .int u3, .ref ev])) := (k17 _ (z_nn uq2 x_fa)).trans a260
      have a262 : f18 fa = some (.inr (2, [.int u1, .int u2, .int u3, .ref ev])) := k20 _ _ a261 
      have a263 : f3 ev = some (.inl (cy 0, 8, .inl gv)) := (k5 _ (z_nn uq2 x_ev)).trans x_ev
      have a264 : f6 ev = some (.inl (cy 0, 8, .inl gv)) := (k8 _ (z_nn uq2 x_ev)).trans a263
      have a265 : f9 ev = some (.inl (cy 0, 8, .inl gv)) := (k11 _ (z_nn uq2 x_ev)).trans a264
      have a266 : f12 ev = some (.inl (cy 0, 8, .inl gv)) := (k14 _ (z_nn uq2 x_ev)).trans a265
      have a267 : f15 ev = some (.inl (cy 0, 8, .inl gv)) := (k17 _ (z_nn uq2 x_ev)).trans a266
      have a268 : f18 ev = some (.inl (cy 0, 8, .inl gv)) := k20 _ _ a267 
      have a269 : f3 fi = some (.inr (5, [.ref al, .ref ra, .int (nI nn)])) := (k5 _ (z_nn uq2 x_fi)).trans x_fi
      have a270 : f6 fi = some (.inr (5, [.ref al, .ref ra, .int (nI nn)])) := (k8 _ (z_nn uq2 x_fi)).trans a269
      have a271 : f9 fi = some (.inr (5, [.ref al, .ref ra, .int (nI nn)])) := (k11 _ (z_nn uq2 x_fi)).trans a270
      have a272 : f12 fi = some (.inr (5, [.ref al, .ref ra, .int (nI nn)])) := (k14 _ (z_nn uq2 x_fi)).trans a271
      have a273 : f15 fi = some (.inr (5, [.ref al, .ref ra, .int (nI nn)])) := (k17 _ (z_nn uq2 x_fi)).trans a272
      have a274 : f18 fi = some (.inr (5, [.ref al, .ref ra, .int (nI nn)])) := k20 _ _ a273 
      have a275 : f3 al = some (.inl (cy 3, 60, .inr (.inr (.inr (.inr ga))))) := (k5 _ (z_nn uq2 x_al)).trans x_al
      have a276 : f6 al = some (.inl (cy 3, 60, .inr (.inr (.inr (.inr ga))))) := (k8 _ (z_nn uq2 x_al)).trans a275
      have a277 : f9 al = some (.inl (cy 3, 60, .inr (.inr (.inr (.inr ga))))) := (k11 _ (z_nn uq2 x_al)).trans a276
      have a278 : f12 al = some (.inl (cy 3, 60, .inr (.inr (.inr (.inr ga))))) := (k14 _ (z_nn uq2 x_al)).trans a277
      have a279 : f15 al = some (.inl (cy 3, 60, .inr (.inr (.inr (.inr ga))))) := (k17 _ (z_nn uq2 x_al)).trans a278
      have a280 : f18 al = some (.inl (cy 3, 60, .inr (.inr (.inr (.inr ga))))) := k20 _ _ a279 
      have a281 : f3 ra = some (.inl (cy 3, 60, .inr (.inr (.inr (.inr gr))))) := (k5 _ (z_nn uq2 x_ra)).trans x_ra
      have a282 : f6 ra = some (.inl (cy 3, 60, .inr (.inr (.inr (.inr gr))))) := (k8 _ (z_nn uq2 x_ra)).trans a281
      have a283 : f9 ra = some (.inl (cy 3, 60, .inr (.inr (.inr (.inr gr))))) := (k11 _ (z_nn uq2 x_ra)).trans a282
      have a284 : f12 ra = some (.inl (cy 3, 60, .inr (.inr (.inr (.inr gr))))) := (k14 _ (z_nn uq2 x_ra)).trans a283
      have a285 : f15 ra = some (.inl (cy 3, 60, .inr (.inr (.inr (.inr gr))))) := (k17 _ (z_nn uq2 x_ra)).trans a284
      have a286 : f18 ra = some (.inl (cy 3, 60, .inr (.inr (.inr (.inr gr))))) := k20 _ _ a285 
      have a287 : f3 nu = some (.inl (cy 0, 12, .inl gu)) := (k5 _ (z_nn uq2 x_nu)).trans x_nu
      have a288 : f6 nu = some (.inl (cy 0, 12, .inl gu)) := (k8 _ (z_nn uq2 x_nu)).trans a287
      have a289 : f9 nu = some (.inl (cy 0, 12, .inl gu)) := (k11 _ (z_nn uq2 x_nu)).trans a288
      have a290 : f12 nu = some (.inl (cy 0, 12, .inl gu)) := (k14 _ (z_nn uq2 x_nu)).trans a289
      have a291 : f15 nu = some (.inl (cy 0, 12, .inl gu)) := (k17 _ (z_nn uq2 x_nu)).trans a290
      have a292 : f18 nu = some (.inl (cy 0, 12, .inl gu)) := k20 _ _ a291 
      have a293 : f3 fm = some (.inl (cy 4, 6, .inr (.inr (.inr (.inr gf))))) := (k5 _ (z_nn uq2 x_fm)).trans x_fm
      have a294 : f6 fm = some (.inl (cy 4, 6, .inr (.inr (.inr (.inr gf))))) := (k8 _ (z_nn uq2 x_fm)).trans a293
      have a295 : f9 fm = some (.inl (cy 4, 6, .inr (.inr (.inr (.inr gf))))) := (k11 _ (z_nn uq2 x_fm)).trans a294
      have a296 : f12 fm = some (.inl (cy 4, 6, .inr (.inr (.inr (.inr gf))))) := (k14 _ (z_nn uq2 x_fm)).trans a295
      have a297 : f15 fm = some (.inl (cy 4, 6, .inr (.inr (.inr (.inr gf))))) := (k17 _ (z_nn uq2 x_fm)).trans a296
      have a298 : f18 fm = some (.inl (cy 4, 6, .inr (.inr (.inr (.inr gf))))) := k20 _ _ a297 
      have a299 : f3 co = some (.inl (cy 5, 60, .inr (.inr (.inr (.inr gc))))) := (k5 _ (z_nn uq2 x_co)).trans x_co
      have a300 : f6 co = some (.inl (cy 5, 60, .inr (.inr (.inr (.inr gc))))) := (k8 _ (z_nn uq2 x_co)).trans a299
      have a301 : f9 co = some (.inl (cy 5, 60, .inr (.inr (.inr (.inr gc))))) := (k11 _ (z_nn uq2 x_co)).trans a300
      have a302 : f12 co = some (.inl (cy 5, 60, .inr (.inr (.inr (.inr gc))))) := (k14 _ (z_nn uq2 x_co)).trans a301
      have a303 : f15 co = some (.inl (cy 5, 60, .inr (.inr (.inr (.inr gc))))) := (k17 _ (z_nn uq2 x_co)).trans a302
      have a304 : f18 co = some (.inl (cy 5, 60, .inr (.inr (.inr (.inr gc))))) := k20 _ _ a303 
      have a305 : f3 en = some (.inl (cy 6, 4, .inr (.inr (.inr (.inr ge))))) := (k5 _ (z_nn uq2 x_en)).trans x_en
      have a306 : f6 en = some (.inl (cy 6, 4, .inr (.inr (.inr (.inr ge))))) := (k8 _ (z_nn uq2 x_en)).trans a305
      have a307 : f9 en = some (.inl (cy 6, 4, .inr (.inr (.inr (.inr ge))))) := (k11 _ (z_nn uq2 x_en)).trans a306
      have a308 : f12 en = some (.inl (cy 6, 4, .inr (.inr (.inr (.inr ge))))) := (k14 _ (z_nn uq2 x_en)).trans a307
      have a309 : f15 en = some (.inl (cy 6, 4, .inr (.inr (.inr (.inr ge))))) := (k17 _ (z_nn uq2 x_en)).trans a308
      have a310 : f18 en = some (.inl (cy 6, 4, .inr (.inr (.inr (.inr ge))))) := k20 _ _ a309 
      have a311 : f3 ke = some (.inr (6, [.ref kn, .ref vq, .int (nI ks)])) := (k5 _ (z_nn uq2 x_ke)).trans x_ke
      have a312 : f6 ke = some (.inr (6, [.ref kn, .ref vq, .int (nI ks)])) := (k8 _ (z_nn uq2 x_ke)).trans a311
      have a313 : f9 ke = some (.inr (6, [.ref kn, .ref vq, .int (nI ks)])) := (k11 _ (z_nn uq2 x_ke)).trans a312
      have a314 : f12 ke = some (.inr (6, [.ref kn, .ref vq, .int (nI ks)])) := (k14 _ (z_nn uq2 x_ke)).trans a313
      have a315 : f15 ke = some (.inr (6, [.ref kn, .ref vq, .int (nI ks)])) := (k17 _ (z_nn uq2 x_ke)).trans a314
      have a316 : f18 ke = some (.inr (6, [.ref kn, .ref vq, .int (nI ks)])) := k20 _ _ a315 
      have a317 : f3 kn = some (.inl (cy 0, 40, .inl kk)) := (k5 _ (z_nn uq2 x_kn)).trans x_kn
      have a318 : f6 kn = some (.inl (cy 0, 40, .inl kk)) := (k8 _ (z_nn uq2 x_kn)).trans a317
      have a319 : f9 kn = some (.inl (cy 0, 40, .inl kk)) := (k11 _ (z_nn uq2 x_kn)).trans a318
      have a320 : f12 kn = some (.inl (cy 0, 40, .inl kk)) := (k14 _ (z_nn uq2 x_kn)).trans a319
      have a321 : f15 kn = some (.inl (cy 0, 40, .inl kk)) := (k17 _ (z_nn uq2 x_kn)).trans a320
      have a322 : f18 kn = some (.inl (cy 0, 40, .inl kk)) := k20 _ _ a321 
      have a323 : f3 vq = some (.inl (cy 0, 40, .inl kv)) := (k5 _ (z_nn uq2 x_vq)).trans x_vq
      have a324 : f6 vq = some (.inl (cy 0, 40, .inl kv)) := (k8 _ (z_nn uq2 x_vq)).trans a323
      have a325 : f9 vq = some (.inl (cy 0, 40, .inl kv)) := (k11 _ (z_nn uq2 x_vq)).trans a324
      have a326 : f12 vq = some (.inl (cy 0, 40, .inl kv)) := (k14 _ (z_nn uq2 x_vq)).trans a325
      have a327 : f15 vq = some (.inl (cy 0, 40, .inl kv)) := (k17 _ (z_nn uq2 x_vq)).trans a326
      have a328 : f18 vq = some (.inl (cy 0, 40, .inl kv)) := k20 _ _ a327 
      have F329 : ∀ i9 : Nat, i9 < nn → f3 (fg i9) = some (.inr (4, [.int (kd i9), .ref (pt i9), .long (wg i9), .int (wd i9), .int (nI i9), .int (hs i9), .int (bf i9)])) := fun i9 h9 => (k5 _ (z_nn uq2 (hF i9 h9))).trans (hF i9 h9)
      have F330 : ∀ i9 : Nat, i9 < nn → f6 (fg i9) = some (.inr (4, [.int (kd i9), .ref (pt i9), .long (wg i9), .int (wd i9), .int (nI i9), .int (hs i9), .int (bf i9)])) := fun i9 h9 => (k8 _ (z_nn uq2 (hF i9 h9))).trans (F329 i9 h9)
      have F331 : ∀ i9 : Nat, i9 < nn → f9 (fg i9) = some (.inr (4, [.int (kd i9), .ref (pt i9), .long (wg i9), .int (wd i9), .int (nI i9), .int (hs i9), .int (bf i9)])) := fun i9 h9 => (k11 _ (z_nn uq2 (hF i9 h9))).trans (F330 i9 h9)
      have F332 : ∀ i9 : Nat, i9 < nn → f12 (fg i9) = some (.inr (4, [.int (kd i9), .ref (pt i9), .long (wg i9), .int (wd i9), .int (nI i9), .int (hs i9), .int (bf i9)])) := fun i9 h9 => (k14 _ (z_nn uq2 (hF i9 h9))).trans (F331 i9 h9)
      have F333 : ∀ i9 : Nat, i9 < nn → f15 (fg i9) = some (.inr (4, [.int (kd i9), .ref (pt i9), .long (wg i9), .int (wd i9), .int (nI i9), .int (hs i9), .int (bf i9)])) := fun i9 h9 => (k17 _ (z_nn uq2 (hF i9 h9))).trans (F332 i9 h9)
      have F334 : ∀ i9 : Nat, i9 < nn → f18 (fg i9) = some (.inr (4, [.int (kd i9), .ref (pt i9), .long (wg i9), .int (wd i9), .int (nI i9), .int (hs i9), .int (bf i9)])) := fun i9 h9 => k20 _ _ (F333 i9 h9) 
      have F335 : ∀ i9 : Nat, i9 < nn → f3 (pt i9) = some (.inl (cy 1, (ln i9), .inr (.inl (pp i9)))) := fun i9 h9 => (k5 _ (z_nn uq2 (hP i9 h9))).trans (hP i9 h9)
      have F336 : ∀ i9 : Nat, i9 < nn → f6 (pt i9) = some (.inl (cy 1, (ln i9), .inr (.inl (pp i9)))) := fun i9 h9 => (k8 _ (z_nn uq2 (hP i9 h9))).trans (F335 i9 h9)
      have F337 : ∀ i9 : Nat, i9 < nn → f9 (pt i9) = some (.inl (cy 1, (ln i9), .inr (.inl (pp i9)))) := fun i9 h9 => (k11 _ (z_nn uq2 (hP i9 h9))).trans (F336 i9 h9)
      have F338 : ∀ i9 : Nat, i9 < nn → f12 (pt i9) = some (.inl (cy 1, (ln i9), .inr (.inl (pp i9)))) := fun i9 h9 => (k14 _ (z_nn uq2 (hP i9 h9))).trans (F337 i9 h9)
      have F339 : ∀ i9 : Nat, i9 < nn → f15 (pt i9) = some (.inl (cy 1, (ln i9), .inr (.inl (pp i9)))) := fun i9 h9 => (k17 _ (z_nn uq2 (hP i9 h9))).trans (F338 i9 h9)
      have F340 : ∀ i9 : Nat, i9 < nn → f18 (pt i9) = some (.inl (cy 1, (ln i9), .inr (.inl (pp i9)))) := fun i9 h9 => k20 _ _ (F339 i9 h9) 
      have F341 : ∀ i9 : Nat, i9 < nf → f3 (fq i9) = some (.inr (3, [.ref (fk i9), .int (nI (fz i9))])) := fun i9 h9 => (k5 _ (z_nn uq2 (hFq i9 h9))).trans (hFq i9 h9)
      have F342 : ∀ i9 : Nat, i9 < nf → f6 (fq i9) = some (.inr (3, [.ref (fk i9), .int (nI (fz i9))])) := fun i9 h9 => (k8 _ (z_nn uq2 (hFq i9 h9))).trans (F341 i9 h9)
      have F343 : ∀ i9 : Nat, i9 < nf → f9 (fq i9) = some (.inr (3, [.ref (fk i9), .int (nI (fz i9))])) := fun i9 h9 => (k11 _ (z_nn uq2 (hFq i9 h9))).trans (F342 i9 h9)
      have F344 : ∀ i9 : Nat, i9 < nf → f12 (fq i9) = some (.inr (3, [.ref (fk i9), .int (nI (fz i9))])) := fun i9 h9 => (k14 _ (z_nn uq2 (hFq i9 h9))).trans (F343 i9 h9)
      have F345 : ∀ i9 : Nat, i9 < nf → f15 (fq i9) = some (.inr (3, [.ref (fk i9), .int (nI (fz i9))])) := fun i9 h9 => (k17 _ (z_nn uq2 (hFq i9 h9))).trans (F344 i9 h9)
      have F346 : ∀ i9 : Nat, i9 < nf → f18 (fq i9) = some (.inr (3, [.ref (fk i9), .int (nI (fz i9))])) := fun i9 h9 => k20 _ _ (F345 i9 h9) 
      have F347 : ∀ i9 : Nat, i9 < nf → f3 (fk i9) = some (.inl (cy 0, 4, .inl (fc i9))) := fun i9 h9 => (k5 _ (z_nn uq2 (hFk i9 h9))).trans (hFk i9 h9)
      have F348 : ∀ i9 : Nat, i9 < nf → f6 (fk i9) = some (.inl (cy 0, 4, .inl (fc i9))) := fun i9 h9 => (k8 _ (z_nn uq2 (hFk i9 h9))).trans (F347 i9 h9)
      have F349 : ∀ i9 : Nat, i9 < nf → f9 (fk i9) = some (.inl (cy 0, 4, .inl (fc i9))) := fun i9 h9 => (k11 _ (z_nn uq2 (hFk i9 h9))).trans (F348 i9 h9)
      have F350 : ∀ i9 : Nat, i9 < nf → f12 (fk i9) = some (.inl (cy 0, 4, .inl (fc i9))) := fun i9 h9 => (k14 _ (z_nn uq2 (hFk i9 h9))).trans (F349 i9 h9)
      have F351 : ∀ i9 : Nat, i9 < nf → f15 (fk i9) = some (.inl (cy 0, 4, .inl (fc i9))) := fun i9 h9 => (k17 _ (z_nn uq2 (hFk i9 h9))).trans (F350 i9 h9)
      have F352 : ∀ i9 : Nat, i9 < nf → f18 (fk i9) = some (.inl (cy 0, 4, .inl (fc i9))) := fun i9 h9 => k20 _ _ (F351 i9 h9) 
      have F353 : ∀ i9 : Nat, i9 < nc → f3 (cn i9) = some (.inr (0, [.int (ce i9), .int (cm i9)])) := fun i9 h9 => (k5 _ (z_nn uq2 (hCn i9 h9))).trans (hCn i9 h9)
      have F354 : ∀ i9 : Nat, i9 < nc → f6 (cn i9) = some (.inr (0, [.int (ce i9), .int (cm i9)])) := fun i9 h9 => (k8 _ (z_nn uq2 (hCn i9 h9))).trans (F353 i9 h9)
      have F355 : ∀ i9 : Nat, i9 < nc → f9 (cn i9) = some (.inr (0, [.int (ce i9), .int (cm i9)])) := fun i9 h9 => (k11 _ (z_nn uq2 (hCn i9 h9))).trans (F354 i9 h9)
      have F356 : ∀ i9 : Nat, i9 < nc → f12 (cn i9) = some (.inr (0, [.int (ce i9), .int (cm i9)])) := fun i9 h9 => (k14 _ (z_nn uq2 (hCn i9 h9))).trans (F355 i9 h9)
      have F357 : ∀ i9 : Nat, i9 < nc → f15 (cn i9) = some (.inr (0, [.int (ce i9), .int (cm i9)])) := fun i9 h9 => (k17 _ (z_nn uq2 (hCn i9 h9))).trans (F356 i9 h9)
      have F358 : ∀ i9 : Nat, i9 < nc → f18 (cn i9) = some (.inr (0, [.int (ce i9), .int (cm i9)])) := fun i9 h9 => k20 _ _ (F357 i9 h9) 
      have F359 : ∀ i9 : Nat, i9 < 4 → f3 (ea i9) = some (.inr (1, [.ref (ma i9), .int (nI (sq i9))])) := fun i9 h9 => (k5 _ (z_nn uq2 (hEa i9 h9))).trans (hEa i9 h9)
      have F360 : ∀ i9 : Nat, i9 < 4 → f6 (ea i9) = some (.inr (1, [.ref (ma i9), .int (nI (sq i9))])) := fun i9 h9 => (k8 _ (z_nn uq2 (hEa i9 h9))).trans (F359 i9 h9)
      have F361 : ∀ i9 : Nat, i9 < 4 → f9 (ea i9) = some (.inr (1, [.ref (ma i9), .int (nI (sq i9))])) := fun i9 h9 => (k11 _ (z_nn uq2 (hEa i9 h9))).trans (F360 i9 h9)
      have F362 : ∀ i9 : Nat, i9 < 4 → f12 (ea i9) = some (.inr (1, [.ref (ma i9), .int (nI (sq i9))])) := fun i9 h9 => (k14 _ (z_nn uq2 (hEa i9 h9))).trans (F361 i9 h9)
      have F363 : ∀ i9 : Nat, i9 < 4 → f15 (ea i9) = some (.inr (1, [.ref (ma i9), .int (nI (sq i9))])) := fun i9 h9 => (k17 _ (z_nn uq2 (hEa i9 h9))).trans (F362 i9 h9)
      have F364 : ∀ i9 : Nat, i9 < 4 → f18 (ea i9) = some (.inr (1, [.ref (ma i9), .int (nI (sq i9))])) := fun i9 h9 => k20 _ _ (F363 i9 h9) 
      have F365 : ∀ i9 : Nat, i9 < 4 → f3 (ma i9) = some (.inl (cy 0, 60, .inl (mb i9))) := fun i9 h9 => (k5 _ (z_nn uq2 (hMa i9 h9))).trans (hMa i9 h9)
      have F366 : ∀ i9 : Nat, i9 < 4 → f6 (ma i9) = some (.inl (cy 0, 60, .inl (mb i9))) := fun i9 h9 => (k8 _ (z_nn uq2 (hMa i9 h9))).trans (F365 i9 h9)
      have F367 : ∀ i9 : Nat, i9 < 4 → f9 (ma i9) = some (.inl (cy 0, 60, .inl (mb i9))) := fun i9 h9 => (k11 _ (z_nn uq2 (hMa i9 h9))).trans (F366 i9 h9)
      have F368 : ∀ i9 : Nat, i9 < 4 → f12 (ma i9) = some (.inl (cy 0, 60, .inl (mb i9))) := fun i9 h9 => (k14 _ (z_nn uq2 (hMa i9 h9))).trans (F367 i9 h9)
      have F369 : ∀ i9 : Nat, i9 < 4 → f15 (ma i9) = some (.inl (cy 0, 60, .inl (mb i9))) := fun i9 h9 => (k17 _ (z_nn uq2 (hMa i9 h9))).trans (F368 i9 h9)
      have F370 : ∀ i9 : Nat, i9 < 4 → f18 (ma i9) = some (.inl (cy 0, 60, .inl (mb i9))) := fun i9 h9 => k20 _ _ (F369 i9 h9) 
      exact z_iret C hr rfl hz hS ⟨u1, u2, u3, gv, nl, gu, nn, ga, gr, fg, pt, kd, ln, pp, wg, wd, hs, bf, nf, gf, fq, fk, fz, fc, nc, gc, cn, ce, cm, sq, mb, ks, kk, kv, lk, (by show _ = q_family nf (zks (upd (upd (upd (upd (fun _ => 0) 0 x) 1 y) 2 z) 3 v) 4).isSome; rw [q_family, if_pos hk, if_neg c30]), rfl, rfl, rfl, rfl, rfl, rfl, rfl, rfl, rfl, rfl, rfl, rfl, (by rw [if_neg (by decide)]), (by rw [if_neg (by decide)]), ⟨fun _ _ => rfl, fun h9 => absurd h9 (by decide)⟩, rfl, rfl, rfl, rfl, rfl, rfl, rfl, rfl, rfl, ⟨a29, a262, a268, a274, a280, a286, a292, a298, a304, a310, a316, a322, a328, F334, F340, F346, F352, F358, F364, F370, hn60, hl12, hf6, hc60, hs40, hga, hgr, hln, hk5, hk4, hfi, hpi, har, hgf, hfz, hgc, hG, hsq, hei, hmi, kne, hca, hcr, hlk⟩⟩ (Nat.le_of_ble_eq_true rfl) (Nat.le_of_ble_eq_true rfl) dX7_family_44
  · refine lv_iconst (v := 4) hx hb dX7_family_0 (by decide) ?_
    refine z_newa (atype := .int) (t0 := 0) (N' := 4) (x := (.inl (fun _ => 0))) C hz hS hA rfl mA_int rfl (fun _ => rfl) (by decide) (Nat.le_of_ble_eq_true rfl) (by decide) (Nat.le_of_ble_eq_true rfl) (Nat.le_of_ble_eq_true rfl) dX7_family_1 (fun q371 H f373 uq372 a374 k375 hz hS => ?_)
    refine lv_dup hx hb dX7_family_3 rfl ?_
    refine lv_iconst (v := 0) hx hb dX7_family_4 (by decide) ?_
    refine lv_iload_n hx hb dX7_family_5 rfl (lv_at hl 1 rfl) ?_
    refine z_iast 0 C hz hS a374 (by decide) (Nat.le_of_ble_eq_true rfl) (by omega) dX7_family_6 (fun H locs f376 a377 k378 hz hS => ?_)
    refine lv_dup hx hb dX7_family_7 rfl ?_
    refine lv_iconst (v := 1) hx hb dX7_family_8 (by decide) ?_
    refine lv_iload_n hx hb dX7_family_9 rfl (lv_at hl 2 rfl) ?_
    refine z_iast 1 C hz hS a377 (by decide) (Nat.le_of_ble_eq_true rfl) (by omega) dX7_family_10 (fun H locs f379 a380 k381 hz hS => ?_)
    refine lv_dup hx hb dX7_family_11 rfl ?_
    refine lv_iconst (v := 2) hx hb dX7_family_12 (by decide) ?_
    refine lv_iload_n hx hb dX7_family_13 rfl (lv_at hl 3 rfl) ?_
    refine z_iast 2 C hz hS a380 (by decide) (Nat.le_of_ble_eq_true rfl) (by omega) dX7_family_14 (fun H locs f382 a383 k384 hz hS => ?_)
    refine lv_dup hx hb dX7_family_15 rfl ?_
    refine lv_iconst (v := 3) hx hb dX7_family_16 (by decide) ?_
    refine lv_iload hx hb dX7_family_17 (lv_at hl 4 rfl) ?_
    refine z_iast 3 C hz hS a383 (by decide) (Nat.le_of_ble_eq_true rfl) (by omega) dX7_family_19 (fun H locs f385 a386 k387 hz hS => ?_)
    refine lv_astore (lv' := [(5, .ref q371), (0, .ref o), (1, .int x), (2, .int y), (3, .int z), (4, .int v)]) hx hb dX7_family_20 hl (by decide) rfl (fun ls hl => ?_)
    refine lv_aload hx hb dX7_family_22 (lv_at hl 0 rfl) ?_
    refine z_callSi (As := [.ref q371]) C hz hS hA hl (k_X7_areKindsOnce l D cy f385 q371 (upd (upd (upd (upd (fun _ => 0) 0 x) 1 y) 2 z) 3 v) a386 ) zyX7_areKindsOnce mMX7_187 rfl rfl (Nat.le_of_ble_eq_true rfl) ⟨Nat.le_of_ble_eq_true rfl, Nat.le_of_ble_eq_true rfl⟩ ⟨Nat.le_of_ble_eq_true rfl, Nat.le_of_ble_eq_true rfl⟩ dX7_family_24 (fun r f388 H locs h389 hz hS => ?_)
    obtain ⟨rfl, k390⟩ := h389
    refine lv_topi (fun y391 e392 => ?_)
    obtain rfl : y391 = 0 := e392.trans (if_neg hk)
    refine lv_if_ne (tgt := 33) hx hb dX7_family_27 (by decide) (fun c393 => ?_) (fun c393 => ?_)
    · exact absurd c393 (by decide)
    refine lv_bipush (v := (-2)) hx hb dX7_family_30 (by decide) ?_
    have a394 : f373 o = some (.inr (7, [.ref fa, .ref fi, .ref nu, .int (nI nl), .ref fm, .int (nI nf), .ref co, .int (nI nc), .ref en, .ref ke, .long lk])) := (k375 _ (z_nn uq372 x_o)).trans x_o
    have a395 : f376 o = some (.inr (7, [.ref fa, .ref fi, .ref nu, .int (nI nl), .ref fm, .int (nI nf), .ref co, .int (nI nc), .ref en, .ref ke, .long lk])) := (k378 _ (z_nn uq372 x_o)).trans a394
    have a396 : f379 o = some (.inr (7, [.ref fa, .ref fi, .ref nu, .int (nI nl), .ref fm, .int (nI nf), .ref co, .int (nI nc), .ref en, .ref ke, .long lk])) := (k381 _ (z_nn uq372 x_o)).trans a395
    have a397 : f382 o = some (.inr (7, [.ref fa, .ref fi, .ref nu, .int (nI nl), .ref fm, .int (nI nf), .ref co, .int (nI nc), .ref en, .ref ke, .long lk])) := (k384 _ (z_nn uq372 x_o)).trans a396
    have a398 : f385 o = some (.inr (7, [.ref fa, .ref fi, .ref nu, .int (nI nl), .ref fm, .int (nI nf), .ref co, .int (nI nc), .ref en, .ref ke, .long lk])) := (k387 _ (z_nn uq372 x_o)).trans a397
    have a399 : f388 o = some (.inr (7, [.ref fa, .ref fi, .ref nu, .int (nI nl), .ref fm, .int (nI nf), .ref co, .int (nI nc), .ref en, .ref ke, .long lk])) := k390 _ _ a398 
    have a400 : f373 fa = some (.inr (2, [.int u1, .int u2, .int u3, .ref ev])) := (k375 _ (z_nn uq372 x_fa)).trans x_fa
    have a401 : f376 fa = some (.inr (2, [.int u1, .int u2, .int u3, .ref ev])) := (k378 _ (z_nn uq372 x_fa)).trans a400
    have a402 : f379 fa = some (.inr (2, [.int u1, .int u2, .int u3, .ref ev])) := (k381 _ (z_nn uq372 x_fa)).trans a401
    have a403 : f382 fa = some (.inr (2, [.int u1, .int u2, .int u3, .ref ev])) := (k384 _ (z_nn uq372 x_fa)).trans a402
    have a404 : f385 fa = some (.inr (2, [.int u1, .int u2, .int u3, .ref ev])) := (k387 _ (z_nn uq372 x_fa)).trans a403
    have a405 : f388 fa = some (.inr (2, [.int u1, .int u2, .int u3, .ref ev])) := k390 _ _ a404 
    have a406 : f373 ev = some (.inl (cy 0, 8, .inl gv)) := (k375 _ (z_nn uq372 x_ev)).trans x_ev
    have a407 : f376 ev = some (.inl (cy 0, 8, .inl gv)) := (k378 _ (z_nn uq372 x_ev)).trans a406
    have a408 : f379 ev = some (.inl (cy 0, 8, .inl gv)) := (k381 _ (z_nn uq372 x_ev)).trans a407
    have a409 : f382 ev = some (.inl (cy 0, 8, .inl gv)) := (k384 _ (z_nn uq372 x_ev)).trans a408
    have a410 : f385 ev = some (.inl (cy 0, 8, .inl gv)) := (k387 _ (z_nn uq372 x_ev)).trans a409
    have a411 : f388 ev = some (.inl (cy 0, 8, .inl gv)) := k390 _ _ a410 
    have a412 : f373 fi = some (.inr (5, [.ref al, .ref ra, .int (nI nn)])) := (k375 _ (z_nn uq372 x_fi)).trans x_fi
    have a413 : f376 fi = some (.inr (5, [.ref al, .ref ra, .int (nI nn)])) := (k378 _ (z_nn uq372 x_fi)).trans a412
    have a414 : f379 fi = some (.inr (5, [.ref al, .ref ra, .int (nI nn)])) := (k381 _ (z_nn uq372 x_fi)).trans a413
    have a415 : f382 fi = some (.inr (5, [.ref al, .ref ra, .int (nI nn)])) := (k384 _ (z_nn uq372 x_fi)).trans a414
    have a416 : f385 fi = some (.inr (5, [.ref al, .ref ra, .int (nI nn)])) := (k387 _ (z_nn uq372 x_fi)).trans a415
    have a417 : f388 fi = some (.inr (5, [.ref al, .ref ra, .int (nI nn)])) := k390 _ _ a416 
    have a418 : f373 al = some (.inl (cy 3, 60, .inr (.inr (.inr (.inr ga))))) := (k375 _ (z_nn uq372 x_al)).trans x_al
    have a419 : f376 al = some (.inl (cy 3, 60, .inr (.inr (.inr (.inr ga))))) := (k378 _ (z_nn uq372 x_al)).trans a418
    have a420 : f379 al = some (.inl (cy 3, 60, .inr (.inr (.inr (.inr ga))))) := (k381 _ (z_nn uq372 x_al)).trans a419
    have a421 : f382 al = some (.inl (cy 3, 60, .inr (.inr (.inr (.inr ga))))) := (k384 _ (z_nn uq372 x_al)).trans a420
    have a422 : f385 al = some (.inl (cy 3, 60, .inr (.inr (.inr (.inr ga))))) := (k387 _ (z_nn uq372 x_al)).trans a421
    have a423 : f388 al = some (.inl (cy 3, 60, .inr (.inr (.inr (.inr ga))))) := k390 _ _ a422 
    have a424 : f373 ra = some (.inl (cy 3, 60, .inr (.inr (.inr (.inr gr))))) := (k375 _ (z_nn uq372 x_ra)).trans x_ra
    have a425 : f376 ra = some (.inl (cy 3, 60, .inr (.inr (.inr (.inr gr))))) := (k378 _ (z_nn uq372 x_ra)).trans a424
    have a426 : f379 ra = some (.inl (cy 3, 60, .inr (.inr (.inr (.inr gr))))) := (k381 _ (z_nn uq372 x_ra)).trans a425
    have a427 : f382 ra = some (.inl (cy 3, 60, .inr (.inr (.inr (.inr gr))))) := (k384 _ (z_nn uq372 x_ra)).trans a426
    have a428 : f385 ra = some (.inl (cy 3, 60, .inr (.inr (.inr (.inr gr))))) := (k387 _ (z_nn uq372 x_ra)).trans a427
    have a429 : f388 ra = some (.inl (cy 3, 60, .inr (.inr (.inr (.inr gr))))) := k390 _ _ a428 
    have a430 : f373 nu = some (.inl (cy 0, 12, .inl gu)) := (k375 _ (z_nn uq372 x_nu)).trans x_nu
    have a431 : f376 nu = some (.inl (cy 0, 12, .inl gu)) := (k378 _ (z_nn uq372 x_nu)).trans a430
    have a432 : f379 nu = some (.inl (cy 0, 12, .inl gu)) := (k381 _ (z_nn uq372 x_nu)).trans a431
    have a433 : f382 nu = some (.inl (cy 0, 12, .inl gu)) := (k384 _ (z_nn uq372 x_nu)).trans a432
    have a434 : f385 nu = some (.inl (cy 0, 12, .inl gu)) := (k387 _ (z_nn uq372 x_nu)).trans a433
    have a435 : f388 nu = some (.inl (cy 0, 12, .inl gu)) := k390 _ _ a434 
    have a436 : f373 fm = some (.inl (cy 4, 6, .inr (.inr (.inr (.inr gf))))) := (k375 _ (z_nn uq372 x_fm)).trans x_fm
    have a437 : f376 fm = some (.inl (cy 4, 6, .inr (.inr (.inr (.inr gf))))) := (k378 _ (z_nn uq372 x_fm)).trans a436
    have a438 : f379 fm = some (.inl (cy 4, 6, .inr (.inr (.inr (.inr gf))))) := (k381 _ (z_nn uq372 x_fm)).trans a437
    have a439 : f382 fm = some (.inl (cy 4, 6, .inr (.inr (.inr (.inr gf))))) := (k384 _ (z_nn uq372 x_fm)).trans a438
    have a440 : f385 fm = some (.inl (cy 4, 6, .inr (.inr (.inr (.inr gf))))) := (k387 _ (z_nn uq372 x_fm)).trans a439
    have a441 : f388 fm = some (.inl (cy 4, 6, .inr (.inr (.inr (.inr gf))))) := k390 _ _ a440 
    have a442 : f373 co = some (.inl (cy 5, 60, .inr (.inr (.inr (.inr gc))))) := (k375 _ (z_nn uq372 x_co)).trans x_co
    have a443 : f376 co = some (.inl (cy 5, 60, .inr (.inr (.inr (.inr gc))))) := (k378 _ (z_nn uq372 x_co)).trans a442
    have a444 : f379 co = some (.inl (cy 5, 60, .inr (.inr (.inr (.inr gc))))) := (k381 _ (z_nn uq372 x_co)).trans a443
    have a445 : f382 co = some (.inl (cy 5, 60, .inr (.inr (.inr (.inr gc))))) := (k384 _ (z_nn uq372 x_co)).trans a444
    have a446 : f385 co = some (.inl (cy 5, 60, .inr (.inr (.inr (.inr gc))))) := (k387 _ (z_nn uq372 x_co)).trans a445
    have a447 : f388 co = some (.inl (cy 5, 60, .inr (.inr (.inr (.inr gc))))) := k390 _ _ a446 
    have a448 : f373 en = some (.inl (cy 6, 4, .inr (.inr (.inr (.inr ge))))) := (k375 _ (z_nn uq372 x_en)).trans x_en
    have a449 : f376 en = some (.inl (cy 6, 4, .inr (.inr (.inr (.inr ge))))) := (k378 _ (z_nn uq372 x_en)).trans a448
    have a450 : f379 en = some (.inl (cy 6, 4, .inr (.inr (.inr (.inr ge))))) := (k381 _ (z_nn uq372 x_en)).trans a449
    have a451 : f382 en = some (.inl (cy 6, 4, .inr (.inr (.inr (.inr ge))))) := (k384 _ (z_nn uq372 x_en)).trans a450
    have a452 : f385 en = some (.inl (cy 6, 4, .inr (.inr (.inr (.inr ge))))) := (k387 _ (z_nn uq372 x_en)).trans a451
    have a453 : f388 en = some (.inl (cy 6, 4, .inr (.inr (.inr (.inr ge))))) := k390 _ _ a452 
    have a454 : f373 ke = some (.inr (6, [.ref kn, .ref vq, .int (nI ks)])) := (k375 _ (z_nn uq372 x_ke)).trans x_ke
    have a455 : f376 ke = some (.inr (6, [.ref kn, .ref vq, .int (nI ks)])) := (k378 _ (z_nn uq372 x_ke)).trans a454
    have a456 : f379 ke = some (.inr (6, [.ref kn, .ref vq, .int (nI ks)])) := (k381 _ (z_nn uq372 x_ke)).trans a455
    have a457 : f382 ke = some (.inr (6, [.ref kn, .ref vq, .int (nI ks)])) := (k384 _ (z_nn uq372 x_ke)).trans a456
    have a458 : f385 ke = some (.inr (6, [.ref kn, .ref vq, .int (nI ks)])) := (k387 _ (z_nn uq372 x_ke)).trans a457
    have a459 : f388 ke = some (.inr (6, [.ref kn, .ref vq, .int (nI ks)])) := k390 _ _ a458 
    have a460 : f373 kn = some (.inl (cy 0, 40, .inl kk)) := (k375 _ (z_nn uq372 x_kn)).trans x_kn
    have a461 : f376 kn = some (.inl (cy 0, 40, .inl kk)) := (k378 _ (z_nn uq372 x_kn)).trans a460
    have a462 : f379 kn = some (.inl (cy 0, 40, .inl kk)) := (k381 _ (z_nn uq372 x_kn)).trans a461
    have a463 : f382 kn = some (.inl (cy 0, 40, .inl kk)) := (k384 _ (z_nn uq372 x_kn)).trans a462
    have a464 : f385 kn = some (.inl (cy 0, 40, .inl kk)) := (k387 _ (z_nn uq372 x_kn)).trans a463
    have a465 : f388 kn = some (.inl (cy 0, 40, .inl kk)) := k390 _ _ a464 
    have a466 : f373 vq = some (.inl (cy 0, 40, .inl kv)) := (k375 _ (z_nn uq372 x_vq)).trans x_vq
    have a467 : f376 vq = some (.inl (cy 0, 40, .inl kv)) := (k378 _ (z_nn uq372 x_vq)).trans a466
    have a468 : f379 vq = some (.inl (cy 0, 40, .inl kv)) := (k381 _ (z_nn uq372 x_vq)).trans a467
    have a469 : f382 vq = some (.inl (cy 0, 40, .inl kv)) := (k384 _ (z_nn uq372 x_vq)).trans a468
    have a470 : f385 vq = some (.inl (cy 0, 40, .inl kv)) := (k387 _ (z_nn uq372 x_vq)).trans a469
    have a471 : f388 vq = some (.inl (cy 0, 40, .inl kv)) := k390 _ _ a470 
    have F472 : ∀ i9 : Nat, i9 < nn → f373 (fg i9) = some (.inr (4, [.int (kd i9), .ref (pt i9), .long (wg i9), .int (wd i9), .int (nI i9), .int (hs i9), .int (bf i9)])) := fun i9 h9 => (k375 _ (z_nn uq372 (hF i9 h9))).trans (hF i9 h9)
    have F473 : ∀ i9 : Nat, i9 < nn → f376 (fg i9) = some (.inr (4, [.int (kd i9), .ref (pt i9), .long (wg i9), .int (wd i9), .int (nI i9), .int (hs i9), .int (bf i9)])) := fun i9 h9 => (k378 _ (z_nn uq372 (hF i9 h9))).trans (F472 i9 h9)
    have F474 : ∀ i9 : Nat, i9 < nn → f379 (fg i9) = some (.inr (4, [.int (kd i9), .ref (pt i9), .long (wg i9), .int (wd i9), .int (nI i9), .int (hs i9), .int (bf i9)])) := fun i9 h9 => (k381 _ (z_nn uq372 (hF i9 h9))).trans (F473 i9 h9)
    have F475 : ∀ i9 : Nat, i9 < nn → f382 (fg i9) = some (.inr (4, [.int (kd i9), .ref (pt i9), .long (wg i9), .int (wd i9), .int (nI i9), .int (hs i9), .int (bf i9)])) := fun i9 h9 => (k384 _ (z_nn uq372 (hF i9 h9))).trans (F474 i9 h9)
    have F476 : ∀ i9 : Nat, i9 < nn → f385 (fg i9) = some (.inr (4, [.int (kd i9), .ref (pt i9), .long (wg i9), .int (wd i9), .int (nI i9), .int (hs i9), .int (bf i9)])) := fun i9 h9 => (k387 _ (z_nn uq372 (hF i9 h9))).trans (F475 i9 h9)
    have F477 : ∀ i9 : Nat, i9 < nn → f388 (fg i9) = some (.inr (4, [.int (kd i9), .ref (pt i9), .long (wg i9), .int (wd i9), .int (nI i9), .int (hs i9), .int (bf i9)])) := fun i9 h9 => k390 _ _ (F476 i9 h9) 
    have F478 : ∀ i9 : Nat, i9 < nn → f373 (pt i9) = some (.inl (cy 1, (ln i9), .inr (.inl (pp i9)))) := fun i9 h9 => (k375 _ (z_nn uq372 (hP i9 h9))).trans (hP i9 h9)
    have F479 : ∀ i9 : Nat, i9 < nn → f376 (pt i9) = some (.inl (cy 1, (ln i9), .inr (.inl (pp i9)))) := fun i9 h9 => (k378 _ (z_nn uq372 (hP i9 h9))).trans (F478 i9 h9)
    have F480 : ∀ i9 : Nat, i9 < nn → f379 (pt i9) = some (.inl (cy 1, (ln i9), .inr (.inl (pp i9)))) := fun i9 h9 => (k381 _ (z_nn uq372 (hP i9 h9))).trans (F479 i9 h9)
    have F481 : ∀ i9 : Nat, i9 < nn → f382 (pt i9) = some (.inl (cy 1, (ln i9), .inr (.inl (pp i9)))) := fun i9 h9 => (k384 _ (z_nn uq372 (hP i9 h9))).trans (F480 i9 h9)
    have F482 : ∀ i9 : Nat, i9 < nn → f385 (pt i9) = some (.inl (cy 1, (ln i9), .inr (.inl (pp i9)))) := fun i9 h9 => (k387 _ (z_nn uq372 (hP i9 h9))).trans (F481 i9 h9)
    have F483 : ∀ i9 : Nat, i9 < nn → f388 (pt i9) = some (.inl (cy 1, (ln i9), .inr (.inl (pp i9)))) := fun i9 h9 => k390 _ _ (F482 i9 h9) 
    have F484 : ∀ i9 : Nat, i9 < nf → f373 (fq i9) = some (.inr (3, [.ref (fk i9), .int (nI (fz i9))])) := fun i9 h9 => (k375 _ (z_nn uq372 (hFq i9 h9))).trans (hFq i9 h9)
    have F485 : ∀ i9 : Nat, i9 < nf → f376 (fq i9) = some (.inr (3, [.ref (fk i9), .int (nI (fz i9))])) := fun i9 h9 => (k378 _ (z_nn uq372 (hFq i9 h9))).trans (F484 i9 h9)
    have F486 : ∀ i9 : Nat, i9 < nf → f379 (fq i9) = some (.inr (3, [.ref (fk i9), .int (nI (fz i9))])) := fun i9 h9 => (k381 _ (z_nn uq372 (hFq i9 h9))).trans (F485 i9 h9)
    have F487 : ∀ i9 : Nat, i9 < nf → f382 (fq i9) = some (.inr (3, [.ref (fk i9), .int (nI (fz i9))])) := fun i9 h9 => (k384 _ (z_nn uq372 (hFq i9 h9))).trans (F486 i9 h9)
    have F488 : ∀ i9 : Nat, i9 < nf → f385 (fq i9) = some (.inr (3, [.ref (fk i9), .int (nI (fz i9))])) := fun i9 h9 => (k387 _ (z_nn uq372 (hFq i9 h9))).trans (F487 i9 h9)
    have F489 : ∀ i9 : Nat, i9 < nf → f388 (fq i9) = some (.inr (3, [.ref (fk i9), .int (nI (fz i9))])) := fun i9 h9 => k390 _ _ (F488 i9 h9) 
    have F490 : ∀ i9 : Nat, i9 < nf → f373 (fk i9) = some (.inl (cy 0, 4, .inl (fc i9))) := fun i9 h9 => (k375 _ (z_nn uq372 (hFk i9 h9))).trans (hFk i9 h9)
    have F491 : ∀ i9 : Nat, i9 < nf → f376 (fk i9) = some (.inl (cy 0, 4, .inl (fc i9))) := fun i9 h9 => (k378 _ (z_nn uq372 (hFk i9 h9))).trans (F490 i9 h9)
    have F492 : ∀ i9 : Nat, i9 < nf → f379 (fk i9) = some (.inl (cy 0, 4, .inl (fc i9))) := fun i9 h9 => (k381 _ (z_nn uq372 (hFk i9 h9))).trans (F491 i9 h9)
    have F493 : ∀ i9 : Nat, i9 < nf → f382 (fk i9) = some (.inl (cy 0, 4, .inl (fc i9))) := fun i9 h9 => (k384 _ (z_nn uq372 (hFk i9 h9))).trans (F492 i9 h9)
    have F494 : ∀ i9 : Nat, i9 < nf → f385 (fk i9) = some (.inl (cy 0, 4, .inl (fc i9))) := fun i9 h9 => (k387 _ (z_nn uq372 (hFk i9 h9))).trans (F493 i9 h9)
    have F495 : ∀ i9 : Nat, i9 < nf → f388 (fk i9) = some (.inl (cy 0, 4, .inl (fc i9))) := fun i9 h9 => k390 _ _ (F494 i9 h9) 
    have F496 : ∀ i9 : Nat, i9 < nc → f373 (cn i9) = some (.inr (0, [.int (ce i9), .int (cm i9)])) := fun i9 h9 => (k375 _ (z_nn uq372 (hCn i9 h9))).trans (hCn i9 h9)
    have F497 : ∀ i9 : Nat, i9 < nc → f376 (cn i9) = some (.inr (0, [.int (ce i9), .int (cm i9)])) := fun i9 h9 => (k378 _ (z_nn uq372 (hCn i9 h9))).trans (F496 i9 h9)
    have F498 : ∀ i9 : Nat, i9 < nc → f379 (cn i9) = some (.inr (0, [.int (ce i9), .int (cm i9)])) := fun i9 h9 => (k381 _ (z_nn uq372 (hCn i9 h9))).trans (F497 i9 h9)
    have F499 : ∀ i9 : Nat, i9 < nc → f382 (cn i9) = some (.inr (0, [.int (ce i9), .int (cm i9)])) := fun i9 h9 => (k384 _ (z_nn uq372 (hCn i9 h9))).trans (F498 i9 h9)
    have F500 : ∀ i9 : Nat, i9 < nc → f385 (cn i9) = some (.inr (0, [.int (ce i9), .int (cm i9)])) := fun i9 h9 => (k387 _ (z_nn uq372 (hCn i9 h9))).trans (F499 i9 h9)
    have F501 : ∀ i9 : Nat, i9 < nc → f388 (cn i9) = some (.inr (0, [.int (ce i9), .int (cm i9)])) := fun i9 h9 => k390 _ _ (F500 i9 h9) 
    have F502 : ∀ i9 : Nat, i9 < 4 → f373 (ea i9) = some (.inr (1, [.ref (ma i9), .int (nI (sq i9))])) := fun i9 h9 => (k375 _ (z_nn uq372 (hEa i9 h9))).trans (hEa i9 h9)
    have F503 : ∀ i9 : Nat, i9 < 4 → f376 (ea i9) = some (.inr (1, [.ref (ma i9), .int (nI (sq i9))])) := fun i9 h9 => (k378 _ (z_nn uq372 (hEa i9 h9))).trans (F502 i9 h9)
    have F504 : ∀ i9 : Nat, i9 < 4 → f379 (ea i9) = some (.inr (1, [.ref (ma i9), .int (nI (sq i9))])) := fun i9 h9 => (k381 _ (z_nn uq372 (hEa i9 h9))).trans (F503 i9 h9)
    have F505 : ∀ i9 : Nat, i9 < 4 → f382 (ea i9) = some (.inr (1, [.ref (ma i9), .int (nI (sq i9))])) := fun i9 h9 => (k384 _ (z_nn uq372 (hEa i9 h9))).trans (F504 i9 h9)
    have F506 : ∀ i9 : Nat, i9 < 4 → f385 (ea i9) = some (.inr (1, [.ref (ma i9), .int (nI (sq i9))])) := fun i9 h9 => (k387 _ (z_nn uq372 (hEa i9 h9))).trans (F505 i9 h9)
    have F507 : ∀ i9 : Nat, i9 < 4 → f388 (ea i9) = some (.inr (1, [.ref (ma i9), .int (nI (sq i9))])) := fun i9 h9 => k390 _ _ (F506 i9 h9) 
    have F508 : ∀ i9 : Nat, i9 < 4 → f373 (ma i9) = some (.inl (cy 0, 60, .inl (mb i9))) := fun i9 h9 => (k375 _ (z_nn uq372 (hMa i9 h9))).trans (hMa i9 h9)
    have F509 : ∀ i9 : Nat, i9 < 4 → f376 (ma i9) = some (.inl (cy 0, 60, .inl (mb i9))) := fun i9 h9 => (k378 _ (z_nn uq372 (hMa i9 h9))).trans (F508 i9 h9)
    have F510 : ∀ i9 : Nat, i9 < 4 → f379 (ma i9) = some (.inl (cy 0, 60, .inl (mb i9))) := fun i9 h9 => (k381 _ (z_nn uq372 (hMa i9 h9))).trans (F509 i9 h9)
    have F511 : ∀ i9 : Nat, i9 < 4 → f382 (ma i9) = some (.inl (cy 0, 60, .inl (mb i9))) := fun i9 h9 => (k384 _ (z_nn uq372 (hMa i9 h9))).trans (F510 i9 h9)
    have F512 : ∀ i9 : Nat, i9 < 4 → f385 (ma i9) = some (.inl (cy 0, 60, .inl (mb i9))) := fun i9 h9 => (k387 _ (z_nn uq372 (hMa i9 h9))).trans (F511 i9 h9)
    have F513 : ∀ i9 : Nat, i9 < 4 → f388 (ma i9) = some (.inl (cy 0, 60, .inl (mb i9))) := fun i9 h9 => k390 _ _ (F512 i9 h9) 
    exact z_iret C hr rfl hz hS ⟨u1, u2, u3, gv, nl, gu, nn, ga, gr, fg, pt, kd, ln, pp, wg, wd, hs, bf, nf, gf, fq, fk, fz, fc, nc, gc, cn, ce, cm, sq, mb, ks, kk, kv, lk, (by show _ = q_family nf (zks (upd (upd (upd (upd (fun _ => 0) 0 x) 1 y) 2 z) 3 v) 4).isSome; rw [q_family, if_neg hk]), rfl, rfl, rfl, rfl, rfl, rfl, rfl, rfl, rfl, rfl, rfl, rfl, (by rw [if_neg (by decide)]), (by rw [if_neg (by decide)]), ⟨fun _ _ => rfl, fun h9 => absurd h9 (by decide)⟩, rfl, rfl, rfl, rfl, rfl, rfl, rfl, rfl, rfl, ⟨a399, a405, a411, a417, a423, a429, a435, a441, a447, a453, a459, a465, a471, F477, F483, F489, F495, F501, F507, F513, hn60, hl12, hf6, hc60, hs40, hga, hgr, hln, hk5, hk4, hfi, hpi, har, hgf, hfz, hgc, hG, hsq, hei, hmi, kne, hca, hcr, hlk⟩⟩ (Nat.le_of_ble_eq_true rfl) (Nat.le_of_ble_eq_true rfl) dX7_family_32
abbrev rmX7_findFamily_A : Room := { frames := 0, cells := 0, slots := 0, locals := 0 }
set_option maxHeartbeats 4000000 in
set_option maxRecDepth 100000 in
theorem k_X7_findFamily_A (l : Launch) (D : va_G) (cy : Nat → ClassId) (f : zM) (o : Nat) (fa : Nat) (fi : Nat) (nu : Nat) (nl : Nat) (fm : Nat) (nf : Nat) (co : Nat) (nc : Nat) (en : Nat) (ke : Nat) (lk : Int64) (gf : Nat → Option Nat) (fq : Nat → Nat) (j : Nat) (x : Int32) (p0 : f o = some (.inr (7, [.ref fa, .ref fi, .ref nu, .int (nI nl), .ref fm, .int (nI nf), .ref co, .int (nI nc), .ref en, .ref ke, .long lk]))) (p1 : f fm = some (.inl (cy 4, 6, .inr (.inr (.inr (.inr gf))))))  (hgf : ∀ i, i < nf → gf i = some (fq i)) (hxj : x = nI j) (hj : j < nf) (hb6 : nf ≤ 6) : zCq l D cy yX7_findFamily cX7_findFamily 2 (Option.some (Jvm.ClassFile.FieldType.object "KindRows$Family")) rmX7_findFamily_A [.ref o, .int x] f (fun (r : Option Nat) (f1 : zM) => r = (some (fq j)) ∧ (∀ (b : Nat) (e : va_E), f b = some e → f1 b = some e)) := by
  intro sz
  refine z_body (by decide +kernel) (Nat.le_of_ble_eq_true rfl) ?_
  intro p e s m below meth c ls C hr hin hsz hz hl
  subst hsz
  have hx := C.1
  have hb := C.2.1
  have hA : ∀ q, s.heap.size ≤ q → zA f s.heap.size q := fun q h => Or.inr h
  have hS : va_S (zA f s.heap.size) s.heap s.heap [] := va_S.rf
  have hl : lv_has ls 2 [(0, .ref o), (1, .int x)] := hl
  refine lv_iload_n hx hb dX7_findFamily_0 rfl (lv_at hl 1 rfl) ?_
  refine lv_if_lt (tgt := 21) hx hb dX7_findFamily_1 (by decide) (fun c1 => ?_) (fun c1 => ?_)
  · exact absurd c1 (by rw [hxj]; exact nI_pos (by omega))
  refine lv_iload_n hx hb dX7_findFamily_4 rfl (lv_at hl 1 rfl) ?_
  refine lv_aload_n hx hb dX7_findFamily_5 rfl (lv_at hl 0 rfl) ?_
  refine z_get (v := .int (nI nf)) C hz p0 zl7 mFX7_37 (by decide) rfl dX7_findFamily_6 ?_
  refine lv_icmp_ge (tgt := 21) hx hb dX7_findFamily_9 (by decide) (fun c2 => ?_) (fun c2 => ?_)
  · exact absurd ((nI_leI (a := nf) (b := j) (by omega) (by omega)).mp (by rw [← hxj]; exact c2)) (by omega)
  refine lv_aload_n hx hb dX7_findFamily_12 rfl (lv_at hl 0 rfl) ?_
  refine z_get (v := .ref fm) C hz p0 zl7 mFX7_33 (by decide) rfl dX7_findFamily_13 ?_
  refine lv_iload_n hx hb dX7_findFamily_16 rfl (lv_at hl 1 rfl) ?_
  refine z_aldq j C hz p1 rfl hxj (by omega) (by omega) dX7_findFamily_17 ?_
  rw [hgf j hj]
  refine W.eq (g2 := F0 m 18 ls [.ref (fq j)]) rfl ?_
  refine lv_goto (tgt := 22) hx hb dX7_findFamily_18 (by decide) ?_
  exact z_aret (r := some (fq j)) C hr (Or.inl ⟨_, rfl⟩) rfl hz hS ⟨rfl, (fun b e hb => hb)⟩ (Nat.le_of_ble_eq_true rfl) (Nat.le_of_ble_eq_true rfl) dX7_findFamily_22
abbrev rmX7_findFamily_B : Room := { frames := 0, cells := 0, slots := 0, locals := 0 }
set_option maxHeartbeats 4000000 in
set_option maxRecDepth 100000 in
theorem k_X7_findFamily_B (l : Launch) (D : va_G) (cy : Nat → ClassId) (f : zM) (o : Nat) (fa : Nat) (fi : Nat) (nu : Nat) (nl : Nat) (fm : Nat) (nf : Nat) (co : Nat) (nc : Nat) (en : Nat) (ke : Nat) (lk : Int64) (x : Int32) (p0 : f o = some (.inr (7, [.ref fa, .ref fi, .ref nu, .int (nI nl), .ref fm, .int (nI nf), .ref co, .int (nI nc), .ref en, .ref ke, .long lk])))  (hxn : ∀ j, j < nf → x ≠ nI j) (hb6 : nf ≤ 6) : zCq l D cy yX7_findFamily cX7_findFamily 2 (Option.some (Jvm.ClassFile.FieldType.object "KindRows$Family")) rmX7_findFamily_B [.ref o, .int x] f (fun (r : Option Nat) (f1 : zM) => r = none ∧ (∀ (b : Nat) (e : va_E), f b = some e → f1 b = some e)) := by
  intro sz
  refine z_body (by decide +kernel) (Nat.le_of_ble_eq_true rfl) ?_
  intro p e s m below meth c ls C hr hin hsz hz hl
  subst hsz
  have hx := C.1
  have hb := C.2.1
  have hA : ∀ q, s.heap.size ≤ q → zA f s.heap.size q := fun q h => Or.inr h
  have hS : va_S (zA f s.heap.size) s.heap s.heap [] := va_S.rf
  have hl : lv_has ls 2 [(0, .ref o), (1, .int x)] := hl
  refine lv_iload_n hx hb dX7_findFamily_0 rfl (lv_at hl 1 rfl) ?_
  refine lv_if_lt (tgt := 21) hx hb dX7_findFamily_1 (by decide) (fun c1 => ?_) (fun c1 => ?_)
  · refine lv_null hx hb dX7_findFamily_21 ?_
    exact z_aret (r := none) C hr (Or.inl ⟨_, rfl⟩) rfl hz hS ⟨rfl, (fun b e hb => hb)⟩ (Nat.le_of_ble_eq_true rfl) (Nat.le_of_ble_eq_true rfl) dX7_findFamily_22
  · refine lv_iload_n hx hb dX7_findFamily_4 rfl (lv_at hl 1 rfl) ?_
    refine lv_aload_n hx hb dX7_findFamily_5 rfl (lv_at hl 0 rfl) ?_
    refine z_get (v := .int (nI nf)) C hz p0 zl7 mFX7_37 (by decide) rfl dX7_findFamily_6 ?_
    refine lv_icmp_ge (tgt := 21) hx hb dX7_findFamily_9 (by decide) (fun c2 => ?_) (fun c2 => ?_)
    rotate_left
    · exact absurd (z_ixl c1 c2 (by omega)) (fun ⟨j9, h9, e9⟩ => hxn j9 h9 e9)
    refine lv_null hx hb dX7_findFamily_21 ?_
    exact z_aret (r := none) C hr (Or.inl ⟨_, rfl⟩) rfl hz hS ⟨rfl, (fun b e hb => hb)⟩ (Nat.le_of_ble_eq_true rfl) (Nat.le_of_ble_eq_true rfl) dX7_findFamily_22
abbrev rmX7_findConstant_A : Room := { frames := 0, cells := 0, slots := 0, locals := 0 }
set_option maxHeartbeats 4000000 in
set_option maxRecDepth 100000 in
theorem k_X7_findConstant_A (l : Launch) (D : va_G) (cy : Nat → ClassId) (f : zM) (o : Nat) (fa : Nat) (fi : Nat) (nu : Nat) (nl : Nat) (fm : Nat) (nf : Nat) (co : Nat) (nc : Nat) (en : Nat) (ke : Nat) (lk : Int64) (gc : Nat → Option Nat) (cn : Nat → Nat) (j : Nat) (x : Int32) (p0 : f o = some (.inr (7, [.ref fa, .ref fi, .ref nu, .int (nI nl), .ref fm, .int (nI nf), .ref co, .int (nI nc), .ref en, .ref ke, .long lk]))) (p1 : f co = some (.inl (cy 5, 60, .inr (.inr (.inr (.inr gc))))))  (hgc : ∀ i, i < nc → gc i = some (cn i)) (hxj : x = nI j) (hj : j < nc) (hb6 : nc ≤ 60) : zCq l D cy yX7_findConstant cX7_findConstant 2 (Option.some (Jvm.ClassFile.FieldType.object "KindRows$Constant")) rmX7_findConstant_A [.ref o, .int x] f (fun (r : Option Nat) (f1 : zM) => r = (some (cn j)) ∧ (∀ (b : Nat) (e : va_E), f b = some e → f1 b = some e)) := by
  intro sz
  refine z_body (by decide +kernel) (Nat.le_of_ble_eq_true rfl) ?_
  intro p e s m below meth c ls C hr hin hsz hz hl
  subst hsz
  have hx := C.1
  have hb := C.2.1
  have hA : ∀ q, s.heap.size ≤ q → zA f s.heap.size q := fun q h => Or.inr h
  have hS : va_S (zA f s.heap.size) s.heap s.heap [] := va_S.rf
  have hl : lv_has ls 2 [(0, .ref o), (1, .int x)] := hl
  refine lv_iload_n hx hb dX7_findConstant_0 rfl (lv_at hl 1 rfl) ?_
  refine lv_if_lt (tgt := 21) hx hb dX7_findConstant_1 (by decide) (fun c1 => ?_) (fun c1 => ?_)
  · exact absurd c1 (by rw [hxj]; exact nI_pos (by omega))
  refine lv_iload_n hx hb dX7_findConstant_4 rfl (lv_at hl 1 rfl) ?_
  refine lv_aload_n hx hb dX7_findConstant_5 rfl (lv_at hl 0 rfl) ?_
  refine z_get (v := .int (nI nc)) C hz p0 zl7 mFX7_46 (by decide) rfl dX7_findConstant_6 ?_
  refine lv_icmp_ge (tgt := 21) hx hb dX7_findConstant_9 (by decide) (fun c2 => ?_) (fun c2 => ?_)
  · exact absurd ((nI_leI (a := nc) (b := j) (by omega) (by omega)).mp (by rw [← hxj]; exact c2)) (by omega)
  refine lv_aload_n hx hb dX7_findConstant_12 rfl (lv_at hl 0 rfl) ?_
  refine z_get (v := .ref co) C hz p0 zl7 mFX7_42 (by decide) rfl dX7_findConstant_13 ?_
  refine lv_iload_n hx hb dX7_findConstant_16 rfl (lv_at hl 1 rfl) ?_
  refine z_aldq j C hz p1 rfl hxj (by omega) (by omega) dX7_findConstant_17 ?_
  rw [hgc j hj]
  refine W.eq (g2 := F0 m 18 ls [.ref (cn j)]) rfl ?_
  refine lv_goto (tgt := 22) hx hb dX7_findConstant_18 (by decide) ?_
  exact z_aret (r := some (cn j)) C hr (Or.inl ⟨_, rfl⟩) rfl hz hS ⟨rfl, (fun b e hb => hb)⟩ (Nat.le_of_ble_eq_true rfl) (Nat.le_of_ble_eq_true rfl) dX7_findConstant_22
abbrev rmX7_findConstant_B : Room := { frames := 0, cells := 0, slots := 0, locals := 0 }
set_option maxHeartbeats 4000000 in
set_option maxRecDepth 100000 in
theorem k_X7_findConstant_B (l : Launch) (D : va_G) (cy : Nat → ClassId) (f : zM) (o : Nat) (fa : Nat) (fi : Nat) (nu : Nat) (nl : Nat) (fm : Nat) (nf : Nat) (co : Nat) (nc : Nat) (en : Nat) (ke : Nat) (lk : Int64) (x : Int32) (p0 : f o = some (.inr (7, [.ref fa, .ref fi, .ref nu, .int (nI nl), .ref fm, .int (nI nf), .ref co, .int (nI nc), .ref en, .ref ke, .long lk])))  (hxn : ∀ j, j < nc → x ≠ nI j) (hb6 : nc ≤ 60) : zCq l D cy yX7_findConstant cX7_findConstant 2 (Option.some (Jvm.ClassFile.FieldType.object "KindRows$Constant")) rmX7_findConstant_B [.ref o, .int x] f (fun (r : Option Nat) (f1 : zM) => r = none ∧ (∀ (b : Nat) (e : va_E), f b = some e → f1 b = some e)) := by
  intro sz
  refine z_body (by decide +kernel) (Nat.le_of_ble_eq_true rfl) ?_
  intro p e s m below meth c ls C hr hin hsz hz hl
  subst hsz
  have hx := C.1
  have hb := C.2.1
  have hA : ∀ q, s.heap.size ≤ q → zA f s.heap.size q := fun q h => Or.inr h
  have hS : va_S (zA f s.heap.size) s.heap s.heap [] := va_S.rf
  have hl : lv_has ls 2 [(0, .ref o), (1, .int x)] := hl
  refine lv_iload_n hx hb dX7_findConstant_0 rfl (lv_at hl 1 rfl) ?_
  refine lv_if_lt (tgt := 21) hx hb dX7_findConstant_1 (by decide) (fun c1 => ?_) (fun c1 => ?_)
  · refine lv_null hx hb dX7_findConstant_21 ?_
    exact z_aret (r := none) C hr (Or.inl ⟨_, rfl⟩) rfl hz hS ⟨rfl, (fun b e hb => hb)⟩ (Nat.le_of_ble_eq_true rfl) (Nat.le_of_ble_eq_true rfl) dX7_findConstant_22
  · refine lv_iload_n hx hb dX7_findConstant_4 rfl (lv_at hl 1 rfl) ?_
    refine lv_aload_n hx hb dX7_findConstant_5 rfl (lv_at hl 0 rfl) ?_
    refine z_get (v := .int (nI nc)) C hz p0 zl7 mFX7_46 (by decide) rfl dX7_findConstant_6 ?_
    refine lv_icmp_ge (tgt := 21) hx hb dX7_findConstant_9 (by decide) (fun c2 => ?_) (fun c2 => ?_)
    rotate_left
    · exact absurd (z_ixl c1 c2 (by omega)) (fun ⟨j9, h9, e9⟩ => hxn j9 h9 e9)
    refine lv_null hx hb dX7_findConstant_21 ?_
    exact z_aret (r := none) C hr (Or.inl ⟨_, rfl⟩) rfl hz hS ⟨rfl, (fun b e hb => hb)⟩ (Nat.le_of_ble_eq_true rfl) (Nat.le_of_ble_eq_true rfl) dX7_findConstant_22
abbrev rmX7_tag : Room := { frames := 2, cells := 0, slots := 0, locals := 44 }
set_option maxHeartbeats 4000000 in
set_option maxRecDepth 100000 in
theorem k_X7_tag (l : Launch) (D : va_G) (cy : Nat → ClassId) (f : zM) (o : Nat) (fa : Nat) (fi : Nat) (nu : Nat) (fm : Nat) (co : Nat) (en : Nat) (ke : Nat) (ev : Nat) (al : Nat) (ra : Nat) (kn : Nat) (vq : Nat) (ge : Nat → Option Nat) (ea : Nat → Nat) (ma : Nat → Nat) (u1 : Int32) (u2 : Int32) (u3 : Int32) (gv : Nat → Int32) (nl : Nat) (gu : Nat → Int32) (nn : Nat) (ga : Nat → Option Nat) (gr : Nat → Option Nat) (fg : Nat → Nat) (pt : Nat → Nat) (kd : Nat → Int32) (ln : Nat → Nat) (pp : Nat → Nat → Int64) (wg : Nat → Int64) (wd : Nat → Int32) (hs : Nat → Int32) (bf : Nat → Int32) (nf : Nat) (gf : Nat → Option Nat) (fq : Nat → Nat) (fk : Nat → Nat) (fz : Nat → Nat) (fc : Nat → Nat → Int32) (nc : Nat) (gc : Nat → Option Nat) (cn : Nat → Nat) (ce : Nat → Int32) (cm : Nat → Int32) (sq : Nat → Nat) (mb : Nat → Nat → Int32) (ks : Nat) (kk : Nat → Int32) (kv : Nat → Int32) (lk : Int64) (x : Int32) (y : Int32)    (hI : zIX cy f o fa fi nu fm co en ke ev al ra kn vq ge ea ma u1 u2 u3 gv nl gu nn ga gr fg pt kd ln pp wg wd hs bf nf gf fq fk fz fc nc gc cn ce cm sq mb ks kk kv lk) : zCi l D cy yX7_tag cX7_tag 5 (Option.some Jvm.ClassFile.FieldType.int) rmX7_tag [.ref o, .int x, .int y] f (fun (r : Int32) (f1 : zM) => ∃ (u11 : Int32) (u21 : Int32) (u31 : Int32) (gv1 : Nat → Int32) (nl1 : Nat) (gu1 : Nat → Int32) (nn1 : Nat) (ga1 : Nat → Option Nat) (gr1 : Nat → Option Nat) (fg1 : Nat → Nat) (pt1 : Nat → Nat) (kd1 : Nat → Int32) (ln1 : Nat → Nat) (pp1 : Nat → Nat → Int64) (wg1 : Nat → Int64) (wd1 : Nat → Int32) (hs1 : Nat → Int32) (bf1 : Nat → Int32) (nf1 : Nat) (gf1 : Nat → Option Nat) (fq1 : Nat → Nat) (fk1 : Nat → Nat) (fz1 : Nat → Nat) (fc1 : Nat → Nat → Int32) (nc1 : Nat) (gc1 : Nat → Option Nat) (cn1 : Nat → Nat) (ce1 : Nat → Int32) (cm1 : Nat → Int32) (sq1 : Nat → Nat) (mb1 : Nat → Nat → Int32) (ks1 : Nat) (kk1 : Nat → Int32) (kv1 : Nat → Int32) (lk1 : Int64), r = (q_tag nf fz fc nn kd x y) ∧ (u11 = u1) ∧ (u21 = u2) ∧ (u31 = u3) ∧ (gv1 = gv) ∧ (nl1 = nl) ∧ (gu1 = gu) ∧ (nn1 = nn) ∧ (kd1 = kd) ∧ (ln1 = ln) ∧ (pp1 = pp) ∧ (wd1 = wd) ∧ (hs1 = hs) ∧ (nf1 = nf) ∧ (fz1 = fz) ∧ (fc1 = fc) ∧ (nc1 = nc) ∧ (ce1 = ce) ∧ (cm1 = cm) ∧ (sq1 = sq) ∧ (mb1 = mb) ∧ (ks1 = ks) ∧ (kk1 = kk) ∧ (kv1 = kv) ∧ (lk1 = lk) ∧ zIX cy f1 o fa fi nu fm co en ke ev al ra kn vq ge ea ma u11 u21 u31 gv1 nl1 gu1 nn1 ga1 gr1 fg1 pt1 kd1 ln1 pp1 wg1 wd1 hs1 bf1 nf1 gf1 fq1 fk1 fz1 fc1 nc1 gc1 cn1 ce1 cm1 sq1 mb1 ks1 kk1 kv1 lk1) := by
  intro sz
  refine z_body (by decide +kernel) (Nat.le_of_ble_eq_true rfl) ?_
  intro p e s m below meth c ls C hr hin hsz hz hl
  subst hsz
  have hx := C.1
  have hb := C.2.1
  have hA : ∀ q, s.heap.size ≤ q → zA f s.heap.size q := fun q h => Or.inr h
  have hS : va_S (zA f s.heap.size) s.heap s.heap [] := va_S.rf
  have hl : lv_has ls 5 [(0, .ref o), (1, .int x), (2, .int y)] := hl
  obtain ⟨x_o, x_fa, x_ev, x_fi, x_al, x_ra, x_nu, x_fm, x_co, x_en, x_ke, x_kn, x_vq, hF, hP, hFq, hFk, hCn, hEa, hMa, hn60, hl12, hf6, hc60, hs40, hga, hgr, hln, hk5, hk4, hfi, hpi, har, hgf, hfz, hgc, hG, hsq, hei, hmi, kne, hca, hcr, hlk⟩ := id hI
  refine lv_aload_n hx hb dX7_tag_0 rfl (lv_at hl 0 rfl) ?_
  refine lv_iload_n hx hb dX7_tag_1 rfl (lv_at hl 1 rfl) ?_
  rcases z_findi x nf with ⟨jf, hjf, hvf⟩ | hvf
  · have hFf : isF nf x = true := isF_t (by omega) hjf hvf
    have hIf : fI x = jf := fI_of (by omega) hvf
    refine z_callVq (As := [.int x]) C hz hS hA hl (k_X7_findFamily_A l D cy f o fa fi nu nl fm nf co nc en ke lk gf fq jf x x_o x_fm hgf hvf hjf (by omega)) zyX7_findFamily mMX7_194 x_o zl7 rfl rfl (Nat.le_of_ble_eq_true rfl) ⟨Nat.le_of_ble_eq_true rfl, Nat.le_of_ble_eq_true rfl⟩ ⟨Nat.le_of_ble_eq_true rfl, Nat.le_of_ble_eq_true rfl⟩ dX7_tag_2 (fun r f1 H locs h2 hz hS => ?_)
    obtain ⟨rfl, k3⟩ := h2
    refine W.eq (g2 := F0 m 5 ls [.ref (fq jf)]) rfl ?_
    refine lv_astore_n (lv' := [(3, .ref (fq jf)), (0, .ref o), (1, .int x), (2, .int y)]) hx hb dX7_tag_5 rfl hl (by decide) rfl (fun ls hl => ?_)
    refine lv_aload_n hx hb dX7_tag_6 rfl (lv_at hl 1 rfl) ?_
    have a4 : f1 o = some (.inr (7, [.ref fa, .ref fi, .ref nu, .int (nI nl), .ref fm, .int (nI nf), .ref co, .int (nI nc), .ref en, .ref ke, .long lk])) := k3 _ _ x_o 
    refine z_get (v := .ref fi) C hz a4 zl7 mFX7_19 (by decide) rfl dX7_tag_7 ?_
    refine lv_iload_n hx hb dX7_tag_10 rfl (lv_at hl 3 rfl) ?_
    refine lv_i2l (v := y.toInt64) hx hb dX7_tag_11 rfl ?_
    rcases z_findi y nn with ⟨ja, hja, hva⟩ | hva
    · have hFa : isF nn y = true := isF_t hn60 hja hva
      have hIa : fI y = ja := fI_of (by omega) hva
      have hNa : ¬ y = (-1) := by rw [hva]; exact z_nim1 (by omega)
      have a5 : f1 fi = some (.inr (5, [.ref al, .ref ra, .int (nI nn)])) := k3 _ _ x_fi 
      have a6 : f1 al = some (.inl (cy 3, 60, .inr (.inr (.inr (.inr ga))))) := k3 _ _ x_al 
      refine z_callVq (As := [.long y.toInt64]) C hz hS hA hl (k_X5_find_A l D cy f1 fi al ra ga nn fg y.toInt64 ja a5 a6 hn60 hga (by rw [hva, nI_l (by omega)]) hja) zyX5_find mMX7_130 a5 zl5 rfl rfl (Nat.le_of_ble_eq_true rfl) ⟨Nat.le_of_ble_eq_true rfl, Nat.le_of_ble_eq_true rfl⟩ ⟨Nat.le_of_ble_eq_true rfl, Nat.le_of_ble_eq_true rfl⟩ dX7_tag_12 (fun r f7 H locs h8 hz hS => ?_)
      obtain ⟨rfl, k9⟩ := h8
      refine W.eq (g2 := F0 m 15 ls [.ref (fg ja)]) rfl ?_
      refine lv_astore (lv' := [(4, .ref (fg ja)), (3, .ref (fq jf)), (0, .ref o), (1, .int x), (2, .int y)]) hx hb dX7_tag_15 hl (by decide) rfl (fun ls hl => ?_)
      refine lv_aload_n hx hb dX7_tag_17 rfl (lv_at hl 1 rfl) ?_
      refine lv_ifnull hx hb dX7_tag_18 ?_
      refine lv_aload hx hb dX7_tag_21 (lv_at hl 0 rfl) ?_
      refine lv_ifnonnull (tgt := 29) hx hb dX7_tag_23 (by decide) ?_
      refine lv_aload_n hx hb dX7_tag_29 rfl (lv_at hl 1 rfl) ?_
      refine lv_aload hx hb dX7_tag_30 (lv_at hl 0 rfl) ?_
      have F10 : ∀ i9 : Nat, i9 < nf → f1 (fq i9) = some (.inr (3, [.ref (fk i9), .int (nI (fz i9))])) := fun i9 h9 => k3 _ _ (hFq i9 h9) 
      have F11 : ∀ i9 : Nat, i9 < nf → f7 (fq i9) = some (.inr (3, [.ref (fk i9), .int (nI (fz i9))])) := fun i9 h9 => k9 _ _ (F10 i9 h9) 
      have a12 : f7 (fq jf) = some (.inr (3, [.ref (fk jf), .int (nI (fz jf))])) := F11 jf hjf
      have F13 : ∀ i9 : Nat, i9 < nf → f1 (fk i9) = some (.inl (cy 0, 4, .inl (fc i9))) := fun i9 h9 => k3 _ _ (hFk i9 h9) 
      have F14 : ∀ i9 : Nat, i9 < nf → f7 (fk i9) = some (.inl (cy 0, 4, .inl (fc i9))) := fun i9 h9 => k9 _ _ (F13 i9 h9) 
      have a15 : f7 (fk jf) = some (.inl (cy 0, 4, .inl (fc jf))) := F14 jf hjf
      have F16 : ∀ i9 : Nat, i9 < nn → f1 (fg i9) = some (.inr (4, [.int (kd i9), .ref (pt i9), .long (wg i9), .int (wd i9), .int (nI i9), .int (hs i9), .int (bf i9)])) := fun i9 h9 => k3 _ _ (hF i9 h9) 
      have F17 : ∀ i9 : Nat, i9 < nn → f7 (fg i9) = some (.inr (4, [.int (kd i9), .ref (pt i9), .long (wg i9), .int (wd i9), .int (nI i9), .int (hs i9), .int (bf i9)])) := fun i9 h9 => k9 _ _ (F16 i9 h9) 
      have a18 : f7 (fg ja) = some (.inr (4, [.int (kd ja), .ref (pt ja), .long (wg ja), .int (wd ja), .int (nI ja), .int (hs ja), .int (bf ja)])) := F17 ja hja
      refine z_callVi (As := [.ref (fg ja)]) C hz hS hA hl (k_X3_tagOf l D cy f7 (fq jf) (fk jf) (fz jf) (fc jf) (fg ja) (kd ja) (pt ja) (wg ja) (wd ja) (nI ja) (hs ja) (bf ja) a12 a15 a18 (hfz jf hjf)) zyX3_tagOf mMX7_198 a12 zl3 rfl rfl (Nat.le_of_ble_eq_true rfl) ⟨Nat.le_of_ble_eq_true rfl, Nat.le_of_ble_eq_true rfl⟩ ⟨Nat.le_of_ble_eq_true rfl, Nat.le_of_ble_eq_true rfl⟩ dX7_tag_32 (fun r f19 H locs h20 hz hS => ?_)
      obtain ⟨rfl, k21⟩ := h20
      have a22 : f7 o = some (.inr (7, [.ref fa, .ref fi, .ref nu, .int (nI nl), .ref fm, .int (nI nf), .ref co, .int (nI nc), .ref en, .ref ke, .long lk])) := k9 _ _ a4 
      have a23 : f19 o = some (.inr (7, [.ref fa, .ref fi, .ref nu, .int (nI nl), .ref fm, .int (nI nf), .ref co, .int (nI nc), .ref en, .ref ke, .long lk])) := k21 _ _ a22 
      have a24 : f1 fa = some (.inr (2, [.int u1, .int u2, .int u3, .ref ev])) := k3 _ _ x_fa 
      have a25 : f7 fa = some (.inr (2, [.int u1, .int u2, .int u3, .ref ev])) := k9 _ _ a24 
      have a26 : f19 fa = some (.inr (2, [.int u1, .int u2, .int u3, .ref ev])) := k21 _ _ a25 
      have a27 : f1 ev = some (.inl (cy 0, 8, .inl gv)) := k3 _ _ x_ev 
      have a28 : f7 ev = some (.inl (cy 0, 8, .inl gv)) := k9 _ _ a27 
      have a29 : f19 ev = some (.inl (cy 0, 8, .inl gv)) := k21 _ _ a28 
      have a30 : f7 fi = some (.inr (5, [.ref al, .ref ra, .int (nI nn)])) := k9 _ _ a5 
      have a31 : f19 fi = some (.inr (5, [.ref al, .ref ra, .int (nI nn)])) := k21 _ _ a30 
      have a32 : f7 al = some (.inl (cy 3, 60, .inr (.inr (.inr (.inr ga))))) := k9 _ _ a6 
      have a33 : f19 al = some (.inl (cy 3, 60, .inr (.inr (.inr (.inr ga))))) := k21 _ _ a32 
      have a34 : f1 ra = some (.inl (cy 3, 60, .inr (.inr (.inr (.inr gr))))) := k3 _ _ x_ra 
      have a35 : f7 ra = some (.inl (cy 3, 60, .inr (.inr (.inr (.inr gr))))) := k9 _ _ a34 
      have a36 : f19 ra = some (.inl (cy 3, 60, .inr (.inr (.inr (.inr gr))))) := k21 _ _ a35 
      have a37 : f1 nu = some (.inl (cy 0, 12, .inl gu)) := k3 _ _ x_nu 
      have a38 : f7 nu = some (.inl (cy 0, 12, .inl gu)) := k9 _ _ a37 
      have a39 : f19 nu = some (.inl (cy 0, 12, .inl gu)) := k21 _ _ a38 
      have a40 : f1 fm = some (.inl (cy 4, 6, .inr (.inr (.inr (.inr gf))))) := k3 _ _ x_fm 
      have a41 : f7 fm = some (.inl (cy 4, 6, .inr (.inr (.inr (.inr gf))))) := k9 _ _ a40 
      have a42 : f19 fm = some (.inl (cy 4, 6, .inr (.inr (.inr (.inr gf))))) := k21 _ _ a41 
      have a43 : f1 co = some (.inl (cy 5, 60, .inr (.inr (.inr (.inr gc))))) := k3 _ _ x_co 
      have a44 : f7 co = some (.inl (cy 5, 60, .inr (.inr (.inr (.inr gc))))) := k9 _ _ a43 
      have a45 : f19 co = some (.inl (cy 5, 60, .inr (.inr (.inr (.inr gc))))) := k21 _ _ a44 
      have a46 : f1 en = some (.inl (cy 6, 4, .inr (.inr (.inr (.inr ge))))) := k3 _ _ x_en 
      have a47 : f7 en = some (.inl (cy 6, 4, .inr (.inr (.inr (.inr ge))))) := k9 _ _ a46 
      have a48 : f19 en = some (.inl (cy 6, 4, .inr (.inr (.inr (.inr ge))))) := k21 _ _ a47 
      have a49 : f1 ke = some (.inr (6, [.ref kn, .ref vq, .int (nI ks)])) := k3 _ _ x_ke 
      have a50 : f7 ke = some (.inr (6, [.ref kn, .ref vq, .int (nI ks)])) := k9 _ _ a49 
      have a51 : f19 ke = some (.inr (6, [.ref kn, .ref vq, .int (nI ks)])) := k21 _ _ a50 
      have a52 : f1 kn = some (.inl (cy 0, 40, .inl kk)) := k3 _ _ x_kn 
      have a53 : f7 kn = some (.inl (cy 0, 40, .inl kk)) := k9 _ _ a52 
      have a54 : f19 kn = some (.inl (cy 0, 40, .inl kk)) := k21 _ _ a53 
      have a55 : f1 vq = some (.inl (cy 0, 40, .inl kv)) := k3 _ _ x_vq 
      have a56 : f7 vq = some (.inl (cy 0, 40, .inl kv)) := k9 _ _ a55 
      have a57 : f19 vq = some (.inl (cy 0, 40, .inl kv)) := k21 _ _ a56 
      have F58 : ∀ i9 : Nat, i9 < nn → f19 (fg i9) = some (.inr (4, [.int (kd i9), .ref (pt i9), .long (wg i9), .int (wd i9), .int (nI i9), .int (hs i9), .int (bf i9)])) := fun i9 h9 => k21 _ _ (F17 i9 h9) 
      have F59 : ∀ i9 : Nat, i9 < nn → f1 (pt i9) = some (.inl (cy 1, (ln i9), .inr (.inl (pp i9)))) := fun i9 h9 => k3 _ _ (hP i9 h9) 
      have F60 : ∀ i9 : Nat, i9 < nn → f7 (pt i9) = some (.inl (cy 1, (ln i9), .inr (.inl (pp i9)))) := fun i9 h9 => k9 _ _ (F59 i9 h9) 
      have F61 : ∀ i9 : Nat, i9 < nn → f19 (pt i9) = some (.inl (cy 1, (ln i9), .inr (.inl (pp i9)))) := fun i9 h9 => k21 _ _ (F60 i9 h9) 
      have F62 : ∀ i9 : Nat, i9 < nf → f19 (fq i9) = some (.inr (3, [.ref (fk i9), .int (nI (fz i9))])) := fun i9 h9 => k21 _ _ (F11 i9 h9) 
      have F63 : ∀ i9 : Nat, i9 < nf → f19 (fk i9) = some (.inl (cy 0, 4, .inl (fc i9))) := fun i9 h9 => k21 _ _ (F14 i9 h9) 
      have F64 : ∀ i9 : Nat, i9 < nc → f1 (cn i9) = some (.inr (0, [.int (ce i9), .int (cm i9)])) := fun i9 h9 => k3 _ _ (hCn i9 h9) 
      have F65 : ∀ i9 : Nat, i9 < nc → f7 (cn i9) = some (.inr (0, [.int (ce i9), .int (cm i9)])) := fun i9 h9 => k9 _ _ (F64 i9 h9) 
      have F66 : ∀ i9 : Nat, i9 < nc → f19 (cn i9) = some (.inr (0, [.int (ce i9), .int (cm i9)])) := fun i9 h9 => k21 _ _ (F65 i9 h9) 
      have F67 : ∀ i9 : Nat, i9 < 4 → f1 (ea i9) = some (.inr (1, [.ref (ma i9), .int (nI (sq i9))])) := fun i9 h9 => k3 _ _ (hEa i9 h9) 
      have F68 : ∀ i9 : Nat, i9 < 4 → f7 (ea i9) = some (.inr (1, [.ref (ma i9), .int (nI (sq i9))])) := fun i9 h9 => k9 _ _ (F67 i9 h9) 
      have F69 : ∀ i9 : Nat, i9 < 4 → f19 (ea i9) = some (.inr (1, [.ref (ma i9), .int (nI (sq i9))])) := fun i9 h9 => k21 _ _ (F68 i9 h9) 
      have F70 : ∀ i9 : Nat, i9 < 4 → f1 (ma i9) = some (.inl (cy 0, 60, .inl (mb i9))) := fun i9 h9 => k3 _ _ (hMa i9 h9) 
      have F71 : ∀ i9 : Nat, i9 < 4 → f7 (ma i9) = some (.inl (cy 0, 60, .inl (mb i9))) := fun i9 h9 => k9 _ _ (F70 i9 h9) 
      have F72 : ∀ i9 : Nat, i9 < 4 → f19 (ma i9) = some (.inl (cy 0, 60, .inl (mb i9))) := fun i9 h9 => k21 _ _ (F71 i9 h9) 
      exact z_iret C hr rfl hz hS ⟨u1, u2, u3, gv, nl, gu, nn, ga, gr, fg, pt, kd, ln, pp, wg, wd, hs, bf, nf, gf, fq, fk, fz, fc, nc, gc, cn, ce, cm, sq, mb, ks, kk, kv, lk, (by simp [q_tag, hFf, hIf, hFa, hIa, hNa]), rfl, rfl, rfl, rfl, rfl, rfl, rfl, rfl, rfl, rfl, rfl, rfl, rfl, rfl, rfl, rfl, rfl, rfl, rfl, rfl, rfl, rfl, rfl, rfl, ⟨a23, a26, a29, a31, a33, a36, a39, a42, a45, a48, a51, a54, a57, F58, F61, F62, F63, F66, F69, F72, hn60, hl12, hf6, hc60, hs40, hga, hgr, hln, hk5, hk4, hfi, hpi, har, hgf, hfz, hgc, hG, hsq, hei, hmi, kne, hca, hcr, hlk⟩⟩ (Nat.le_of_ble_eq_true rfl) (Nat.le_of_ble_eq_true rfl) dX7_tag_35
    · have hFa : isF nn y = false := isF_f hn60 hva
      have a73 : f1 fi = some (.inr (5, [.ref al, .ref ra, .int (nI nn)])) := k3 _ _ x_fi 
      refine z_callVq (As := [.long y.toInt64]) C hz hS hA hl (k_X5_find_B l D cy f1 fi al ra nn y.toInt64 a73 hn60 (fun i9 h9 q9 => hva i9 h9 (z_toL (by omega) q9))) zyX5_find mMX7_130 a73 zl5 rfl rfl (Nat.le_of_ble_eq_true rfl) ⟨Nat.le_of_ble_eq_true rfl, Nat.le_of_ble_eq_true rfl⟩ ⟨Nat.le_of_ble_eq_true rfl, Nat.le_of_ble_eq_true rfl⟩ dX7_tag_12 (fun r f74 H locs h75 hz hS => ?_)
      obtain ⟨rfl, k76⟩ := h75
      refine W.eq (g2 := F0 m 15 ls [.null]) rfl ?_
      refine lv_astoreN (lv' := [(4, .null), (3, .ref (fq jf)), (0, .ref o), (1, .int x), (2, .int y)]) hx hb dX7_tag_15 hl (by decide) rfl (fun ls hl => ?_)
      refine lv_aload_n hx hb dX7_tag_17 rfl (lv_at hl 1 rfl) ?_
      refine lv_ifnull hx hb dX7_tag_18 ?_
      refine lv_aloadN hx hb dX7_tag_21 (lv_at hl 0 rfl) ?_
      refine lv_ifnonnullN hx hb dX7_tag_23 ?_
      refine lv_bipush (v := (-2)) hx hb dX7_tag_26 (by decide) ?_
      have a77 : f74 o = some (.inr (7, [.ref fa, .ref fi, .ref nu, .int (nI nl), .ref fm, .int (nI nf), .ref co, .int (nI nc), .ref en, .ref ke, .long lk])) := k76 _ _ a4 
      have a78 : f1 fa = some (.inr (2, [.int u1, .int u2, .int u3, .ref ev])) := k3 _ _ x_fa 
      have a79 : f74 fa = some (.inr (2, [.int u1, .int u2, .int u3, .ref ev])) := k76 _ _ a78 
      have a80 : f1 ev = some (.inl (cy 0, 8, .inl gv)) := k3 _ _ x_ev 
      have a81 : f74 ev = some (.inl (cy 0, 8, .inl gv)) := k76 _ _ a80 
      have a82 : f74 fi = some (.inr (5, [.ref al, .ref ra, .int (nI nn)])) := k76 _ _ a73 
      have a83 : f1 al = some (.inl (cy 3, 60, .inr (.inr (.inr (.inr ga))))) := k3 _ _ x_al 
      have a84 : f74 al = some (.inl (cy 3, 60, .inr (.inr (.inr (.inr ga))))) := k76 _ _ a83 
      have a85 : f1 ra = some (.inl (cy 3, 60, .inr (.inr (.inr (.inr gr))))) := k3 _ _ x_ra 
      have a86 : f74 ra = some (.inl (cy 3, 60, .inr (.inr (.inr (.inr gr))))) := k76 _ _ a85 
      have a87 : f1 nu = some (.inl (cy 0, 12, .inl gu)) := k3 _ _ x_nu 
      have a88 : f74 nu = some (.inl (cy 0, 12, .inl gu)) := k76 _ _ a87 
      have a89 : f1 fm = some (.inl (cy 4, 6, .inr (.inr (.inr (.inr gf))))) := k3 _ _ x_fm 
      have a90 : f74 fm = some (.inl (cy 4, 6, .inr (.inr (.inr (.inr gf))))) := k76 _ _ a89 
      have a91 : f1 co = some (.inl (cy 5, 60, .inr (.inr (.inr (.inr gc))))) := k3 _ _ x_co 
      have a92 : f74 co = some (.inl (cy 5, 60, .inr (.inr (.inr (.inr gc))))) := k76 _ _ a91 
      have a93 : f1 en = some (.inl (cy 6, 4, .inr (.inr (.inr (.inr ge))))) := k3 _ _ x_en 
      have a94 : f74 en = some (.inl (cy 6, 4, .inr (.inr (.inr (.inr ge))))) := k76 _ _ a93 
      have a95 : f1 ke = some (.inr (6, [.ref kn, .ref vq, .int (nI ks)])) := k3 _ _ x_ke 
      have a96 : f74 ke = some (.inr (6, [.ref kn, .ref vq, .int (nI ks)])) := k76 _ _ a95 
      have a97 : f1 kn = some (.inl (cy 0, 40, .inl kk)) := k3 _ _ x_kn 
      have a98 : f74 kn = some (.inl (cy 0, 40, .inl kk)) := k76 _ _ a97 
      have a99 : f1 vq = some (.inl (cy 0, 40, .inl kv)) := k3 _ _ x_vq 
      have a100 : f74 vq = some (.inl (cy 0, 40, .inl kv)) := k76 _ _ a99 
      have F101 : ∀ i9 : Nat, i9 < nn → f1 (fg i9) = some (.inr (4, [.int (kd i9), .ref (pt i9), .long (wg i9), .int (wd i9), .int (nI i9), .int (hs i9), .int (bf i9)])) := fun i9 h9 => k3 _ _ (hF i9 h9) 
      have F102 : ∀ i9 : Nat, i9 < nn → f74 (fg i9) = some (.inr (4, [.int (kd i9), .ref (pt i9), .long (wg i9), .int (wd i9), .int (nI i9), .int (hs i9), .int (bf i9)])) := fun i9 h9 => k76 _ _ (F101 i9 h9) 
      have F103 : ∀ i9 : Nat, i9 < nn → f1 (pt i9) = some (.inl (cy 1, (ln i9), .inr (.inl (pp i9)))) := fun i9 h9 => k3 _ _ (hP i9 h9) 
      have F104 : ∀ i9 : Nat, i9 < nn → f74 (pt i9) = some (.inl (cy 1, (ln i9), .inr (.inl (pp i9)))) := fun i9 h9 => k76 _ _ (F103 i9 h9) 
      have F105 : ∀ i9 : Nat, i9 < nf → f1 (fq i9) = some (.inr (3, [.ref (fk i9), .int (nI (fz i9))])) := fun i9 h9 => k3 _ _ (hFq i9 h9) 
      have F106 : ∀ i9 : Nat, i9 < nf → f74 (fq i9) = some (.inr (3, [.ref (fk i9), .int (nI (fz i9))])) := fun i9 h9 => k76 _ _ (F105 i9 h9) 
      have F107 : ∀ i9 : Nat, i9 < nf → f1 (fk i9) = some (.inl (cy 0, 4, .inl (fc i9))) := fun i9 h9 => k3 _ _ (hFk i9 h9) 
      have F108 : ∀ i9 : Nat, i9 < nf → f74 (fk i9) = some (.inl (cy 0, 4, .inl (fc i9))) := fun i9 h9 => k76 _ _ (F107 i9 h9) 
      have F109 : ∀ i9 : Nat, i9 < nc → f1 (cn i9) = some (.inr (0, [.int (ce i9), .int (cm i9)])) := fun i9 h9 => k3 _ _ (hCn i9 h9) 
      have F110 : ∀ i9 : Nat, i9 < nc → f74 (cn i9) = some (.inr (0, [.int (ce i9), .int (cm i9)])) := fun i9 h9 => k76 _ _ (F109 i9 h9) 
      have F111 : ∀ i9 : Nat, i9 < 4 → f1 (ea i9) = some (.inr (1, [.ref (ma i9), .int (nI (sq i9))])) := fun i9 h9 => k3 _ _ (hEa i9 h9) 
      have F112 : ∀ i9 : Nat, i9 < 4 → f74 (ea i9) = some (.inr (1, [.ref (ma i9), .int (nI (sq i9))])) := fun i9 h9 => k76 _ _ (F111 i9 h9) 
      have F113 : ∀ i9 : Nat, i9 < 4 → f1 (ma i9) = some (.inl (cy 0, 60, .inl (mb i9))) := fun i9 h9 => k3 _ _ (hMa i9 h9) 
      have F114 : ∀ i9 : Nat, i9 < 4 → f74 (ma i9) = some (.inl (cy 0, 60, .inl (mb i9))) := fun i9 h9 => k76 _ _ (F113 i9 h9) 
      exact z_iret C hr rfl hz hS ⟨u1, u2, u3, gv, nl, gu, nn, ga, gr, fg, pt, kd, ln, pp, wg, wd, hs, bf, nf, gf, fq, fk, fz, fc, nc, gc, cn, ce, cm, sq, mb, ks, kk, kv, lk, (by simp [q_tag, hFf, hIf, hFa]), rfl, rfl, rfl, rfl, rfl, rfl, rfl, rfl, rfl, rfl, rfl, rfl, rfl, rfl, rfl, rfl, rfl, rfl, rfl, rfl, rfl, rfl, rfl, rfl, ⟨a77, a79, a81, a82, a84, a86, a88, a90, a92, a94, a96, a98, a100, F102, F104, F106, F108, F110, F112, F114, hn60, hl12, hf6, hc60, hs40, hga, hgr, hln, hk5, hk4, hfi, hpi, har, hgf, hfz, hgc, hG, hsq, hei, hmi, kne, hca, hcr, hlk⟩⟩ (Nat.le_of_ble_eq_true rfl) (Nat.le_of_ble_eq_true rfl) dX7_tag_28
  · have hFf : isF nf x = false := isF_f (by omega) hvf
    refine z_callVq (As := [.int x]) C hz hS hA hl (k_X7_findFamily_B l D cy f o fa fi nu nl fm nf co nc en ke lk x x_o hvf (by omega)) zyX7_findFamily mMX7_194 x_o zl7 rfl rfl (Nat.le_of_ble_eq_true rfl) ⟨Nat.le_of_ble_eq_true rfl, Nat.le_of_ble_eq_true rfl⟩ ⟨Nat.le_of_ble_eq_true rfl, Nat.le_of_ble_eq_true rfl⟩ dX7_tag_2 (fun r f115 H locs h116 hz hS => ?_)
    obtain ⟨rfl, k117⟩ := h116
    refine W.eq (g2 := F0 m 5 ls [.null]) rfl ?_
    refine lv_astore_nN (lv' := [(3, .null), (0, .ref o), (1, .int x), (2, .int y)]) hx hb dX7_tag_5 rfl hl (by decide) rfl (fun ls hl => ?_)
    refine lv_aload_n hx hb dX7_tag_6 rfl (lv_at hl 1 rfl) ?_
    have a118 : f115 o = some (.inr (7, [.ref fa, .ref fi, .ref nu, .int (nI nl), .ref fm, .int (nI nf), .ref co, .int (nI nc), .ref en, .ref ke, .long lk])) := k117 _ _ x_o 
    refine z_get (v := .ref fi) C hz a118 zl7 mFX7_19 (by decide) rfl dX7_tag_7 ?_
    refine lv_iload_n hx hb dX7_tag_10 rfl (lv_at hl 3 rfl) ?_
    refine lv_i2l (v := y.toInt64) hx hb dX7_tag_11 rfl ?_
    rcases z_findi y nn with ⟨ja, hja, hva⟩ | hva
    · have hFa : isF nn y = true := isF_t hn60 hja hva
      have hIa : fI y = ja := fI_of (by omega) hva
      have hNa : ¬ y = (-1) := by rw [hva]; exact z_nim1 (by omega)
      have a119 : f115 fi = some (.inr (5, [.ref al, .ref ra, .int (nI nn)])) := k117 _ _ x_fi 
      have a120 : f115 al = some (.inl (cy 3, 60, .inr (.inr (.inr (.inr ga))))) := k117 _ _ x_al 
      refine z_callVq (As := [.long y.toInt64]) C hz hS hA hl (k_X5_find_A l D cy f115 fi al ra ga nn fg y.toInt64 ja a119 a120 hn60 hga (by rw [hva, nI_l (by omega)]) hja) zyX5_find mMX7_130 a119 zl5 rfl rfl (Nat.le_of_ble_eq_true rfl) ⟨Nat.le_of_ble_eq_true rfl, Nat.le_of_ble_eq_true rfl⟩ ⟨Nat.le_of_ble_eq_true rfl, Nat.le_of_ble_eq_true rfl⟩ dX7_tag_12 (fun r f121 H locs h122 hz hS => ?_)
      obtain ⟨rfl, k123⟩ := h122
      refine W.eq (g2 := F0 m 15 ls [.ref (fg ja)]) rfl ?_
      refine lv_astore (lv' := [(4, .ref (fg ja)), (3, .null), (0, .ref o), (1, .int x), (2, .int y)]) hx hb dX7_tag_15 hl (by decide) rfl (fun ls hl => ?_)
      refine lv_aload_nN hx hb dX7_tag_17 rfl (lv_at hl 1 rfl) ?_
      refine lv_ifnullN (tgt := 26) hx hb dX7_tag_18 (by decide) ?_
      refine lv_bipush (v := (-2)) hx hb dX7_tag_26 (by decide) ?_
      have a124 : f121 o = some (.inr (7, [.ref fa, .ref fi, .ref nu, .int (nI nl), .ref fm, .int (nI nf), .ref co, .int (nI nc), .ref en, .ref ke, .long lk])) := k123 _ _ a118 
      have a125 : f115 fa = some (.inr (2, [.int u1, .int u2, .int u3, .ref ev])) := k117 _ _ x_fa 
      have a126 : f121 fa = some (.inr (2, [.int u1, .int u2, .int u3, .ref ev])) := k123 _ _ a125 
      have a127 : f115 ev = some (.inl (cy 0, 8, .inl gv)) := k117 _ _ x_ev 
      have a128 : f121 ev = some (.inl (cy 0, 8, .inl gv)) := k123 _ _ a127 
      have a129 : f121 fi = some (.inr (5, [.ref al, .ref ra, .int (nI nn)])) := k123 _ _ a119 
      have a130 : f121 al = some (.inl (cy 3, 60, .inr (.inr (.inr (.inr ga))))) := k123 _ _ a120 
      have a131 : f115 ra = some (.inl (cy 3, 60, .inr (.inr (.inr (.inr gr))))) := k117 _ _ x_ra 
      have a132 : f121 ra = some (.inl (cy 3, 60, .inr (.inr (.inr (.inr gr))))) := k123 _ _ a131 
      have a133 : f115 nu = some (.inl (cy 0, 12, .inl gu)) := k117 _ _ x_nu 
      have a134 : f121 nu = some (.inl (cy 0, 12, .inl gu)) := k123 _ _ a133 
      have a135 : f115 fm = some (.inl (cy 4, 6, .inr (.inr (.inr (.inr gf))))) := k117 _ _ x_fm 
      have a136 : f121 fm = some (.inl (cy 4, 6, .inr (.inr (.inr (.inr gf))))) := k123 _ _ a135 
      have a137 : f115 co = some (.inl (cy 5, 60, .inr (.inr (.inr (.inr gc))))) := k117 _ _ x_co 
      have a138 : f121 co = some (.inl (cy 5, 60, .inr (.inr (.inr (.inr gc))))) := k123 _ _ a137 
      have a139 : f115 en = some (.inl (cy 6, 4, .inr (.inr (.inr (.inr ge))))) := k117 _ _ x_en 
      have a140 : f121 en = some (.inl (cy 6, 4, .inr (.inr (.inr (.inr ge))))) := k123 _ _ a139 
      have a141 : f115 ke = some (.inr (6, [.ref kn, .ref vq, .int (nI ks)])) := k117 _ _ x_ke 
      have a142 : f121 ke = some (.inr (6, [.ref kn, .ref vq, .int (nI ks)])) := k123 _ _ a141 
      have a143 : f115 kn = some (.inl (cy 0, 40, .inl kk)) := k117 _ _ x_kn 
      have a144 : f121 kn = some (.inl (cy 0, 40, .inl kk)) := k123 _ _ a143 
      have a145 : f115 vq = some (.inl (cy 0, 40, .inl kv)) := k117 _ _ x_vq 
      have a146 : f121 vq = some (.inl (cy 0, 40, .inl kv)) := k123 _ _ a145 
      have F147 : ∀ i9 : Nat, i9 < nn → f115 (fg i9) = some (.inr (4, [.int (kd i9), .ref (pt i9), .long (wg i9), .int (wd i9), .int (nI i9), .int (hs i9), .int (bf i9)])) := fun i9 h9 => k117 _ _ (hF i9 h9) 
      have F148 : ∀ i9 : Nat, i9 < nn → f121 (fg i9) = some (.inr (4, [.int (kd i9), .ref (pt i9), .long (wg i9), .int (wd i9), .int (nI i9), .int (hs i9), .int (bf i9)])) := fun i9 h9 => k123 _ _ (F147 i9 h9) 
      have F149 : ∀ i9 : Nat, i9 < nn → f115 (pt i9) = some (.inl (cy 1, (ln i9), .inr (.inl (pp i9)))) := fun i9 h9 => k117 _ _ (hP i9 h9) 
      have F150 : ∀ i9 : Nat, i9 < nn → f121 (pt i9) = some (.inl (cy 1, (ln i9), .inr (.inl (pp i9)))) := fun i9 h9 => k123 _ _ (F149 i9 h9) 
      have F151 : ∀ i9 : Nat, i9 < nf → f115 (fq i9) = some (.inr (3, [.ref (fk i9), .int (nI (fz i9))])) := fun i9 h9 => k117 _ _ (hFq i9 h9) 
      have F152 : ∀ i9 : Nat, i9 < nf → f121 (fq i9) = some (.inr (3, [.ref (fk i9), .int (nI (fz i9))])) := fun i9 h9 => k123 _ _ (F151 i9 h9) 
      have F153 : ∀ i9 : Nat, i9 < nf → f115 (fk i9) = some (.inl (cy 0, 4, .inl (fc i9))) := fun i9 h9 => k117 _ _ (hFk i9 h9) 
      have F154 : ∀ i9 : Nat, i9 < nf → f121 (fk i9) = some (.inl (cy 0, 4, .inl (fc i9))) := fun i9 h9 => k123 _ _ (F153 i9 h9) 
      have F155 : ∀ i9 : Nat, i9 < nc → f115 (cn i9) = some (.inr (0, [.int (ce i9), .int (cm i9)])) := fun i9 h9 => k117 _ _ (hCn i9 h9) 
      have F156 : ∀ i9 : Nat, i9 < nc → f121 (cn i9) = some (.inr (0, [.int (ce i9), .int (cm i9)])) := fun i9 h9 => k123 _ _ (F155 i9 h9) 
      have F157 : ∀ i9 : Nat, i9 < 4 → f115 (ea i9) = some (.inr (1, [.ref (ma i9), .int (nI (sq i9))])) := fun i9 h9 => k117 _ _ (hEa i9 h9) 
      have F158 : ∀ i9 : Nat, i9 < 4 → f121 (ea i9) = some (.inr (1, [.ref (ma i9), .int (nI (sq i9))])) := fun i9 h9 => k123 _ _ (F157 i9 h9) 
      have F159 : ∀ i9 : Nat, i9 < 4 → f115 (ma i9) = some (.inl (cy 0, 60, .inl (mb i9))) := fun i9 h9 => k117 _ _ (hMa i9 h9) 
      have F160 : ∀ i9 : Nat, i9 < 4 → f121 (ma i9) = some (.inl (cy 0, 60, .inl (mb i9))) := fun i9 h9 => k123 _ _ (F159 i9 h9) 
      exact z_iret C hr rfl hz hS ⟨u1, u2, u3, gv, nl, gu, nn, ga, gr, fg, pt, kd, ln, pp, wg, wd, hs, bf, nf, gf, fq, fk, fz, fc, nc, gc, cn, ce, cm, sq, mb, ks, kk, kv, lk, (by simp [q_tag, hFf, hFa, hIa, hNa]), rfl, rfl, rfl, rfl, rfl, rfl, rfl, rfl, rfl, rfl, rfl, rfl, rfl, rfl, rfl, rfl, rfl, rfl, rfl, rfl, rfl, rfl, rfl, rfl, ⟨a124, a126, a128, a129, a130, a132, a134, a136, a138, a140, a142, a144, a146, F148, F150, F152, F154, F156, F158, F160, hn60, hl12, hf6, hc60, hs40, hga, hgr, hln, hk5, hk4, hfi, hpi, har, hgf, hfz, hgc, hG, hsq, hei, hmi, kne, hca, hcr, hlk⟩⟩ (Nat.le_of_ble_eq_true rfl) (Nat.le_of_ble_eq_true rfl) dX7_tag_28
    · have hFa : isF nn y = false := isF_f hn60 hva
      have a161 : f115 fi = some (.inr (5, [.ref al, .ref ra, .int (nI nn)])) := k117 _ _ x_fi 
      refine z_callVq (As := [.long y.toInt64]) C hz hS hA hl (k_X5_find_B l D cy f115 fi al ra nn y.toInt64 a161 hn60 (fun i9 h9 q9 => hva i9 h9 (z_toL (by omega) q9))) zyX5_find mMX7_130 a161 zl5 rfl rfl (Nat.le_of_ble_eq_true rfl) ⟨Nat.le_of_ble_eq_true rfl, Nat.le_of_ble_eq_true rfl⟩ ⟨Nat.le_of_ble_eq_true rfl, Nat.le_of_ble_eq_true rfl⟩ dX7_tag_12 (fun r f162 H locs h163 hz hS => ?_)
      obtain ⟨rfl, k164⟩ := h163
      refine W.eq (g2 := F0 m 15 ls [.null]) rfl ?_
      refine lv_astoreN (lv' := [(4, .null), (3, .null), (0, .ref o), (1, .int x), (2, .int y)]) hx hb dX7_tag_15 hl (by decide) rfl (fun ls hl => ?_)
      refine lv_aload_nN hx hb dX7_tag_17 rfl (lv_at hl 1 rfl) ?_
      refine lv_ifnullN (tgt := 26) hx hb dX7_tag_18 (by decide) ?_
      refine lv_bipush (v := (-2)) hx hb dX7_tag_26 (by decide) ?_
      have a165 : f162 o = some (.inr (7, [.ref fa, .ref fi, .ref nu, .int (nI nl), .ref fm, .int (nI nf), .ref co, .int (nI nc), .ref en, .ref ke, .long lk])) := k164 _ _ a118 
      have a166 : f115 fa = some (.inr (2, [.int u1, .int u2, .int u3, .ref ev])) := k117 _ _ x_fa 
      have a167 : f162 fa = some (.inr (2, [.int u1, .int u2, .int u3, .ref ev])) := k164 _ _ a166 
      have a168 : f115 ev = some (.inl (cy 0, 8, .inl gv)) := k117 _ _ x_ev 
      have a169 : f162 ev = some (.inl (cy 0, 8, .inl gv)) := k164 _ _ a168 
      have a170 : f162 fi = some (.inr (5, [.ref al, .ref ra, .int (nI nn)])) := k164 _ _ a161 
      have a171 : f115 al = some (.inl (cy 3, 60, .inr (.inr (.inr (.inr ga))))) := k117 _ _ x_al 
      have a172 : f162 al = some (.inl (cy 3, 60, .inr (.inr (.inr (.inr ga))))) := k164 _ _ a171 
      have a173 : f115 ra = some (.inl (cy 3, 60, .inr (.inr (.inr (.inr gr))))) := k117 _ _ x_ra 
      have a174 : f162 ra = some (.inl (cy 3, 60, .inr (.inr (.inr (.inr gr))))) := k164 _ _ a173 
      have a175 : f115 nu = some (.inl (cy 0, 12, .inl gu)) := k117 _ _ x_nu 
      have a176 : f162 nu = some (.inl (cy 0, 12, .inl gu)) := k164 _ _ a175 
      have a177 : f115 fm = some (.inl (cy 4, 6, .inr (.inr (.inr (.inr gf))))) := k117 _ _ x_fm 
      have a178 : f162 fm = some (.inl (cy 4, 6, .inr (.inr (.inr (.inr gf))))) := k164 _ _ a177 
      have a179 : f115 co = some (.inl (cy 5, 60, .inr (.inr (.inr (.inr gc))))) := k117 _ _ x_co 
      have a180 : f162 co = some (.inl (cy 5, 60, .inr (.inr (.inr (.inr gc))))) := k164 _ _ a179 
      have a181 : f115 en = some (.inl (cy 6, 4, .inr (.inr (.inr (.inr ge))))) := k117 _ _ x_en 
      have a182 : f162 en = some (.inl (cy 6, 4, .inr (.inr (.inr (.inr ge))))) := k164 _ _ a181 
      have a183 : f115 ke = some (.inr (6, [.ref kn, .ref vq, .int (nI ks)])) := k117 _ _ x_ke 
      have a184 : f162 ke = some (.inr (6, [.ref kn, .ref vq, .int (nI ks)])) := k164 _ _ a183 
      have a185 : f115 kn = some (.inl (cy 0, 40, .inl kk)) := k117 _ _ x_kn 
      have a186 : f162 kn = some (.inl (cy 0, 40, .inl kk)) := k164 _ _ a185 
      have a187 : f115 vq = some (.inl (cy 0, 40, .inl kv)) := k117 _ _ x_vq 
      have a188 : f162 vq = some (.inl (cy 0, 40, .inl kv)) := k164 _ _ a187 
      have F189 : ∀ i9 : Nat, i9 < nn → f115 (fg i9) = some (.inr (4, [.int (kd i9), .ref (pt i9), .long (wg i9), .int (wd i9), .int (nI i9), .int (hs i9), .int (bf i9)])) := fun i9 h9 => k117 _ _ (hF i9 h9) 
      have F190 : ∀ i9 : Nat, i9 < nn → f162 (fg i9) = some (.inr (4, [.int (kd i9), .ref (pt i9), .long (wg i9), .int (wd i9), .int (nI i9), .int (hs i9), .int (bf i9)])) := fun i9 h9 => k164 _ _ (F189 i9 h9) 
      have F191 : ∀ i9 : Nat, i9 < nn → f115 (pt i9) = some (.inl (cy 1, (ln i9), .inr (.inl (pp i9)))) := fun i9 h9 => k117 _ _ (hP i9 h9) 
      have F192 : ∀ i9 : Nat, i9 < nn → f162 (pt i9) = some (.inl (cy 1, (ln i9), .inr (.inl (pp i9)))) := fun i9 h9 => k164 _ _ (F191 i9 h9) 
      have F193 : ∀ i9 : Nat, i9 < nf → f115 (fq i9) = some (.inr (3, [.ref (fk i9), .int (nI (fz i9))])) := fun i9 h9 => k117 _ _ (hFq i9 h9) 
      have F194 : ∀ i9 : Nat, i9 < nf → f162 (fq i9) = some (.inr (3, [.ref (fk i9), .int (nI (fz i9))])) := fun i9 h9 => k164 _ _ (F193 i9 h9) 
      have F195 : ∀ i9 : Nat, i9 < nf → f115 (fk i9) = some (.inl (cy 0, 4, .inl (fc i9))) := fun i9 h9 => k117 _ _ (hFk i9 h9) 
      have F196 : ∀ i9 : Nat, i9 < nf → f162 (fk i9) = some (.inl (cy 0, 4, .inl (fc i9))) := fun i9 h9 => k164 _ _ (F195 i9 h9) 
      have F197 : ∀ i9 : Nat, i9 < nc → f115 (cn i9) = some (.inr (0, [.int (ce i9), .int (cm i9)])) := fun i9 h9 => k117 _ _ (hCn i9 h9) 
      have F198 : ∀ i9 : Nat, i9 < nc → f162 (cn i9) = some (.inr (0, [.int (ce i9), .int (cm i9)])) := fun i9 h9 => k164 _ _ (F197 i9 h9) 
      have F199 : ∀ i9 : Nat, i9 < 4 → f115 (ea i9) = some (.inr (1, [.ref (ma i9), .int (nI (sq i9))])) := fun i9 h9 => k117 _ _ (hEa i9 h9) 
      have F200 : ∀ i9 : Nat, i9 < 4 → f162 (ea i9) = some (.inr (1, [.ref (ma i9), .int (nI (sq i9))])) := fun i9 h9 => k164 _ _ (F199 i9 h9) 
      have F201 : ∀ i9 : Nat, i9 < 4 → f115 (ma i9) = some (.inl (cy 0, 60, .inl (mb i9))) := fun i9 h9 => k117 _ _ (hMa i9 h9) 
      have F202 : ∀ i9 : Nat, i9 < 4 → f162 (ma i9) = some (.inl (cy 0, 60, .inl (mb i9))) := fun i9 h9 => k164 _ _ (F201 i9 h9) 
      exact z_iret C hr rfl hz hS ⟨u1, u2, u3, gv, nl, gu, nn, ga, gr, fg, pt, kd, ln, pp, wg, wd, hs, bf, nf, gf, fq, fk, fz, fc, nc, gc, cn, ce, cm, sq, mb, ks, kk, kv, lk, (by simp [q_tag, hFf, hFa]), rfl, rfl, rfl, rfl, rfl, rfl, rfl, rfl, rfl, rfl, rfl, rfl, rfl, rfl, rfl, rfl, rfl, rfl, rfl, rfl, rfl, rfl, rfl, rfl, ⟨a165, a167, a169, a170, a172, a174, a176, a178, a180, a182, a184, a186, a188, F190, F192, F194, F196, F198, F200, F202, hn60, hl12, hf6, hc60, hs40, hga, hgr, hln, hk5, hk4, hfi, hpi, har, hgf, hfz, hgc, hG, hsq, hei, hmi, kne, hca, hcr, hlk⟩⟩ (Nat.le_of_ble_eq_true rfl) (Nat.le_of_ble_eq_true rfl) dX7_tag_28
abbrev rmX7_tagged : Room := { frames := 2, cells := 0, slots := 0, locals := 44 }
set_option maxHeartbeats 4000000 in
set_option maxRecDepth 100000 in
theorem k_X7_tagged (l : Launch) (D : va_G) (cy : Nat → ClassId) (f : zM) (o : Nat) (fa : Nat) (fi : Nat) (nu : Nat) (fm : Nat) (co : Nat) (en : Nat) (ke : Nat) (ev : Nat) (al : Nat) (ra : Nat) (kn : Nat) (vq : Nat) (ge : Nat → Option Nat) (ea : Nat → Nat) (ma : Nat → Nat) (u1 : Int32) (u2 : Int32) (u3 : Int32) (gv : Nat → Int32) (nl : Nat) (gu : Nat → Int32) (nn : Nat) (ga : Nat → Option Nat) (gr : Nat → Option Nat) (fg : Nat → Nat) (pt : Nat → Nat) (kd : Nat → Int32) (ln : Nat → Nat) (pp : Nat → Nat → Int64) (wg : Nat → Int64) (wd : Nat → Int32) (hs : Nat → Int32) (bf : Nat → Int32) (nf : Nat) (gf : Nat → Option Nat) (fq : Nat → Nat) (fk : Nat → Nat) (fz : Nat → Nat) (fc : Nat → Nat → Int32) (nc : Nat) (gc : Nat → Option Nat) (cn : Nat → Nat) (ce : Nat → Int32) (cm : Nat → Int32) (sq : Nat → Nat) (mb : Nat → Nat → Int32) (ks : Nat) (kk : Nat → Int32) (kv : Nat → Int32) (lk : Int64) (x : Int32) (y : Int32)    (hI : zIX cy f o fa fi nu fm co en ke ev al ra kn vq ge ea ma u1 u2 u3 gv nl gu nn ga gr fg pt kd ln pp wg wd hs bf nf gf fq fk fz fc nc gc cn ce cm sq mb ks kk kv lk) : zCi l D cy yX7_tagged cX7_tagged 7 (Option.some Jvm.ClassFile.FieldType.int) rmX7_tagged [.ref o, .int x, .int y] f (fun (r : Int32) (f1 : zM) => ∃ (u11 : Int32) (u21 : Int32) (u31 : Int32) (gv1 : Nat → Int32) (nl1 : Nat) (gu1 : Nat → Int32) (nn1 : Nat) (ga1 : Nat → Option Nat) (gr1 : Nat → Option Nat) (fg1 : Nat → Nat) (pt1 : Nat → Nat) (kd1 : Nat → Int32) (ln1 : Nat → Nat) (pp1 : Nat → Nat → Int64) (wg1 : Nat → Int64) (wd1 : Nat → Int32) (hs1 : Nat → Int32) (bf1 : Nat → Int32) (nf1 : Nat) (gf1 : Nat → Option Nat) (fq1 : Nat → Nat) (fk1 : Nat → Nat) (fz1 : Nat → Nat) (fc1 : Nat → Nat → Int32) (nc1 : Nat) (gc1 : Nat → Option Nat) (cn1 : Nat → Nat) (ce1 : Nat → Int32) (cm1 : Nat → Int32) (sq1 : Nat → Nat) (mb1 : Nat → Nat → Int32) (ks1 : Nat) (kk1 : Nat → Int32) (kv1 : Nat → Int32) (lk1 : Int64), r = (q_tagged nf fz fc nn kd x y) ∧ (u11 = u1) ∧ (u21 = u2) ∧ (u31 = u3) ∧ (gv1 = gv) ∧ (nl1 = nl) ∧ (gu1 = gu) ∧ (nn1 = nn) ∧ (kd1 = kd) ∧ (ln1 = ln) ∧ (pp1 = pp) ∧ (wd1 = wd) ∧ (hs1 = hs) ∧ (nf1 = nf) ∧ (fz1 = fz) ∧ (fc1 = fc) ∧ (nc1 = nc) ∧ (ce1 = ce) ∧ (cm1 = cm) ∧ (sq1 = sq) ∧ (mb1 = mb) ∧ (ks1 = ks) ∧ (kk1 = kk) ∧ (kv1 = kv) ∧ (lk1 = lk) ∧ zIX cy f1 o fa fi nu fm co en ke ev al ra kn vq ge ea ma u11 u21 u31 gv1 nl1 gu1 nn1 ga1 gr1 fg1 pt1 kd1 ln1 pp1 wg1 wd1 hs1 bf1 nf1 gf1 fq1 fk1 fz1 fc1 nc1 gc1 cn1 ce1 cm1 sq1 mb1 ks1 kk1 kv1 lk1) := by
  intro sz
  refine z_body (by decide +kernel) (Nat.le_of_ble_eq_true rfl) ?_
  intro p e s m below meth c ls C hr hin hsz hz hl
  subst hsz
  have hx := C.1
  have hb := C.2.1
  have hA : ∀ q, s.heap.size ≤ q → zA f s.heap.size q := fun q h => Or.inr h
  have hS : va_S (zA f s.heap.size) s.heap s.heap [] := va_S.rf
  have hl : lv_has ls 7 [(0, .ref o), (1, .int x), (2, .int y)] := hl
  obtain ⟨x_o, x_fa, x_ev, x_fi, x_al, x_ra, x_nu, x_fm, x_co, x_en, x_ke, x_kn, x_vq, hF, hP, hFq, hFk, hCn, hEa, hMa, hn60, hl12, hf6, hc60, hs40, hga, hgr, hln, hk5, hk4, hfi, hpi, har, hgf, hfz, hgc, hG, hsq, hei, hmi, kne, hca, hcr, hlk⟩ := id hI
  refine lv_aload_n hx hb dX7_tagged_0 rfl (lv_at hl 0 rfl) ?_
  refine lv_iload_n hx hb dX7_tagged_1 rfl (lv_at hl 1 rfl) ?_
  rcases z_findi x nf with ⟨jf, hjf, hvf⟩ | hvf
  · have hFf : isF nf x = true := isF_t (by omega) hjf hvf
    have hIf : fI x = jf := fI_of (by omega) hvf
    refine z_callVq (As := [.int x]) C hz hS hA hl (k_X7_findFamily_A l D cy f o fa fi nu nl fm nf co nc en ke lk gf fq jf x x_o x_fm hgf hvf hjf (by omega)) zyX7_findFamily mMX7_194 x_o zl7 rfl rfl (Nat.le_of_ble_eq_true rfl) ⟨Nat.le_of_ble_eq_true rfl, Nat.le_of_ble_eq_true rfl⟩ ⟨Nat.le_of_ble_eq_true rfl, Nat.le_of_ble_eq_true rfl⟩ dX7_tagged_2 (fun r f1 H locs h2 hz hS => ?_)
    obtain ⟨rfl, k3⟩ := h2
    refine W.eq (g2 := F0 m 5 ls [.ref (fq jf)]) rfl ?_
    refine lv_astore_n (lv' := [(3, .ref (fq jf)), (0, .ref o), (1, .int x), (2, .int y)]) hx hb dX7_tagged_5 rfl hl (by decide) rfl (fun ls hl => ?_)
    refine lv_aload_n hx hb dX7_tagged_6 rfl (lv_at hl 0 rfl) ?_
    refine lv_ifnull hx hb dX7_tagged_7 ?_
    refine lv_iload_n hx hb dX7_tagged_10 rfl (lv_at hl 3 rfl) ?_
    refine lv_iconst (v := (-1)) hx hb dX7_tagged_11 (by decide) ?_
    refine lv_icmp_lt (tgt := 20) hx hb dX7_tagged_12 (by decide) (fun c4 => ?_) (fun c4 => ?_)
    · refine lv_bipush (v := (-2)) hx hb dX7_tagged_20 (by decide) ?_
      have a5 : f1 o = some (.inr (7, [.ref fa, .ref fi, .ref nu, .int (nI nl), .ref fm, .int (nI nf), .ref co, .int (nI nc), .ref en, .ref ke, .long lk])) := k3 _ _ x_o 
      have a6 : f1 fa = some (.inr (2, [.int u1, .int u2, .int u3, .ref ev])) := k3 _ _ x_fa 
      have a7 : f1 ev = some (.inl (cy 0, 8, .inl gv)) := k3 _ _ x_ev 
      have a8 : f1 fi = some (.inr (5, [.ref al, .ref ra, .int (nI nn)])) := k3 _ _ x_fi 
      have a9 : f1 al = some (.inl (cy 3, 60, .inr (.inr (.inr (.inr ga))))) := k3 _ _ x_al 
      have a10 : f1 ra = some (.inl (cy 3, 60, .inr (.inr (.inr (.inr gr))))) := k3 _ _ x_ra 
      have a11 : f1 nu = some (.inl (cy 0, 12, .inl gu)) := k3 _ _ x_nu 
      have a12 : f1 fm = some (.inl (cy 4, 6, .inr (.inr (.inr (.inr gf))))) := k3 _ _ x_fm 
      have a13 : f1 co = some (.inl (cy 5, 60, .inr (.inr (.inr (.inr gc))))) := k3 _ _ x_co 
      have a14 : f1 en = some (.inl (cy 6, 4, .inr (.inr (.inr (.inr ge))))) := k3 _ _ x_en 
      have a15 : f1 ke = some (.inr (6, [.ref kn, .ref vq, .int (nI ks)])) := k3 _ _ x_ke 
      have a16 : f1 kn = some (.inl (cy 0, 40, .inl kk)) := k3 _ _ x_kn 
      have a17 : f1 vq = some (.inl (cy 0, 40, .inl kv)) := k3 _ _ x_vq 
      have F18 : ∀ i9 : Nat, i9 < nn → f1 (fg i9) = some (.inr (4, [.int (kd i9), .ref (pt i9), .long (wg i9), .int (wd i9), .int (nI i9), .int (hs i9), .int (bf i9)])) := fun i9 h9 => k3 _ _ (hF i9 h9) 
      have F19 : ∀ i9 : Nat, i9 < nn → f1 (pt i9) = some (.inl (cy 1, (ln i9), .inr (.inl (pp i9)))) := fun i9 h9 => k3 _ _ (hP i9 h9) 
      have F20 : ∀ i9 : Nat, i9 < nf → f1 (fq i9) = some (.inr (3, [.ref (fk i9), .int (nI (fz i9))])) := fun i9 h9 => k3 _ _ (hFq i9 h9) 
      have F21 : ∀ i9 : Nat, i9 < nf → f1 (fk i9) = some (.inl (cy 0, 4, .inl (fc i9))) := fun i9 h9 => k3 _ _ (hFk i9 h9) 
      have F22 : ∀ i9 : Nat, i9 < nc → f1 (cn i9) = some (.inr (0, [.int (ce i9), .int (cm i9)])) := fun i9 h9 => k3 _ _ (hCn i9 h9) 
      have F23 : ∀ i9 : Nat, i9 < 4 → f1 (ea i9) = some (.inr (1, [.ref (ma i9), .int (nI (sq i9))])) := fun i9 h9 => k3 _ _ (hEa i9 h9) 
      have F24 : ∀ i9 : Nat, i9 < 4 → f1 (ma i9) = some (.inl (cy 0, 60, .inl (mb i9))) := fun i9 h9 => k3 _ _ (hMa i9 h9) 
      exact z_iret C hr rfl hz hS ⟨u1, u2, u3, gv, nl, gu, nn, ga, gr, fg, pt, kd, ln, pp, wg, wd, hs, bf, nf, gf, fq, fk, fz, fc, nc, gc, cn, ce, cm, sq, mb, ks, kk, kv, lk, (by simp [q_tagged, hFf, hIf, c4]), rfl, rfl, rfl, rfl, rfl, rfl, rfl, rfl, rfl, rfl, rfl, rfl, rfl, rfl, rfl, rfl, rfl, rfl, rfl, rfl, rfl, rfl, rfl, rfl, ⟨a5, a6, a7, a8, a9, a10, a11, a12, a13, a14, a15, a16, a17, F18, F19, F20, F21, F22, F23, F24, hn60, hl12, hf6, hc60, hs40, hga, hgr, hln, hk5, hk4, hfi, hpi, har, hgf, hfz, hgc, hG, hsq, hei, hmi, kne, hca, hcr, hlk⟩⟩ (Nat.le_of_ble_eq_true rfl) (Nat.le_of_ble_eq_true rfl) dX7_tagged_22
    · have hy1 : ¬ y < (-1) := c4
      refine lv_iload_n hx hb dX7_tagged_15 rfl (lv_at hl 3 rfl) ?_
      refine lv_iconst (v := 4) hx hb dX7_tagged_16 (by decide) ?_
      refine lv_icmp_lt (tgt := 23) hx hb dX7_tagged_17 (by decide) (fun c25 => ?_) (fun c25 => ?_)
      · have hy2 : y ≤ 3 := z_lt4 c25
        refine lv_iconst (v := 0) hx hb dX7_tagged_23 (by decide) ?_
        refine lv_istore (lv' := [(4, .int 0), (3, .ref (fq jf)), (0, .ref o), (1, .int x), (2, .int y)]) hx hb dX7_tagged_24 hl (by decide) rfl (fun ls hl => ?_)
        refine lv_iconst (v := 0) hx hb dX7_tagged_26 (by decide) ?_
        refine lv_istore (lv' := [(5, .int 0), (4, .int 0), (3, .ref (fq jf)), (0, .ref o), (1, .int x), (2, .int y)]) hx hb dX7_tagged_27 hl (by decide) rfl (fun ls hl => ?_)
        have lp26 : ∀ (n : Nat) (i : Nat) (tt : Int32) (fL27 : zM) (H : Heap) (locs : List Loc) (ls : Array Slot), (nn - i) < n → (i ≤ nn) → (tt = zTC (fz jf) (fc jf) kd y i) → fL27 o = some (.inr (7, [.ref fa, .ref fi, .ref nu, .int (nI nl), .ref fm, .int (nI nf), .ref co, .int (nI nc), .ref en, .ref ke, .long lk])) → fL27 fa = some (.inr (2, [.int u1, .int u2, .int u3, .ref ev])) → fL27 ev = some (.inl (cy 0, 8, .inl gv)) → fL27 fi = some (.inr (5, [.ref al, .ref ra, .int (nI nn)])) → fL27 al = some (.inl (cy 3, 60, .inr (.inr (.inr (.inr ga))))) → fL27 ra = some (.inl (cy 3, 60, .inr (.inr (.inr (.inr gr))))) → fL27 nu = some (.inl (cy 0, 12, .inl gu)) → fL27 fm = some (.inl (cy 4, 6, .inr (.inr (.inr (.inr gf))))) → fL27 co = some (.inl (cy 5, 60, .inr (.inr (.inr (.inr gc))))) → fL27 en = some (.inl (cy 6, 4, .inr (.inr (.inr (.inr ge))))) → fL27 ke = some (.inr (6, [.ref kn, .ref vq, .int (nI ks)])) → fL27 kn = some (.inl (cy 0, 40, .inl kk)) → fL27 vq = some (.inl (cy 0, 40, .inl kv)) → (∀ i9 : Nat, i9 < nn → fL27 (fg i9) = some (.inr (4, [.int (kd i9), .ref (pt i9), .long (wg i9), .int (wd i9), .int (nI i9), .int (hs i9), .int (bf i9)]))) → (∀ i9 : Nat, i9 < nn → fL27 (pt i9) = some (.inl (cy 1, (ln i9), .inr (.inl (pp i9))))) → (∀ i9 : Nat, i9 < nf → fL27 (fq i9) = some (.inr (3, [.ref (fk i9), .int (nI (fz i9))]))) → (∀ i9 : Nat, i9 < nf → fL27 (fk i9) = some (.inl (cy 0, 4, .inl (fc i9)))) → (∀ i9 : Nat, i9 < nc → fL27 (cn i9) = some (.inr (0, [.int (ce i9), .int (cm i9)]))) → (∀ i9 : Nat, i9 < 4 → fL27 (ea i9) = some (.inr (1, [.ref (ma i9), .int (nI (sq i9))]))) → (∀ i9 : Nat, i9 < 4 → fL27 (ma i9) = some (.inl (cy 0, 60, .inl (mb i9)))) → (∀ (b : Nat) (e : va_E), f1 b = some e → fL27 b = some e) → zH D (zA f s.heap.size) fL27 H → va_S (zA f s.heap.size) s.heap H locs → lv_has ls 7 [(0, .ref o), (2, .int y), (3, .ref (fq jf)), (4, .int tt), (5, .int (nI i))] → W p l e rmX7_tagged s m ([.ref o, .int x, .int y] : List Value).toArray below meth c H locs 0 0 (MQ below (va_Qi (fun (r : Int32) (f1 : zM) => ∃ (u11 : Int32) (u21 : Int32) (u31 : Int32) (gv1 : Nat → Int32) (nl1 : Nat) (gu1 : Nat → Int32) (nn1 : Nat) (ga1 : Nat → Option Nat) (gr1 : Nat → Option Nat) (fg1 : Nat → Nat) (pt1 : Nat → Nat) (kd1 : Nat → Int32) (ln1 : Nat → Nat) (pp1 : Nat → Nat → Int64) (wg1 : Nat → Int64) (wd1 : Nat → Int32) (hs1 : Nat → Int32) (bf1 : Nat → Int32) (nf1 : Nat) (gf1 : Nat → Option Nat) (fq1 : Nat → Nat) (fk1 : Nat → Nat) (fz1 : Nat → Nat) (fc1 : Nat → Nat → Int32) (nc1 : Nat) (gc1 : Nat → Option Nat) (cn1 : Nat → Nat) (ce1 : Nat → Int32) (cm1 : Nat → Int32) (sq1 : Nat → Nat) (mb1 : Nat → Nat → Int32) (ks1 : Nat) (kk1 : Nat → Int32) (kv1 : Nat → Int32) (lk1 : Int64), r = (q_tagged nf fz fc nn kd x y) ∧ (u11 = u1) ∧ (u21 = u2) ∧ (u31 = u3) ∧ (gv1 = gv) ∧ (nl1 = nl) ∧ (gu1 = gu) ∧ (nn1 = nn) ∧ (kd1 = kd) ∧ (ln1 = ln) ∧ (pp1 = pp) ∧ (wd1 = wd) ∧ (hs1 = hs) ∧ (nf1 = nf) ∧ (fz1 = fz) ∧ (fc1 = fc) ∧ (nc1 = nc) ∧ (ce1 = ce) ∧ (cm1 = cm) ∧ (sq1 = sq) ∧ (mb1 = mb) ∧ (ks1 = ks) ∧ (kk1 = kk) ∧ (kv1 = kv) ∧ (lk1 = lk) ∧ zIX cy f1 o fa fi nu fm co en ke ev al ra kn vq ge ea ma u11 u21 u31 gv1 nl1 gu1 nn1 ga1 gr1 fg1 pt1 kd1 ln1 pp1 wg1 wd1 hs1 bf1 nf1 gf1 fq1 fk1 fz1 fc1 nc1 gc1 cn1 ce1 cm1 sq1 mb1 ks1 kk1 kv1 lk1) (zB D f s.heap.size) (zA f s.heap.size)) ([.ref o, .int x, .int y] : List Value).toArray s rmX7_tagged.cells rmX7_tagged.slots (zA f s.heap.size)) (F0 m 29 ls []) := by
          intro n
          induction n with
          | zero => intro i tt fL27 H locs ls hmz; exact absurd hmz (Nat.not_lt_zero _)
          | succ n ih =>
            intro i tt fL27 H locs ls hmz hi htt a29 a30 a31 a32 a33 a34 a35 a36 a37 a38 a39 a40 a41 F42 F43 F44 F45 F46 F47 F48 k28 hz hS hl
            refine lv_iload hx hb dX7_tagged_29 (lv_at hl 4 rfl) ?_
            refine lv_aload_n hx hb dX7_tagged_31 rfl (lv_at hl 0 rfl) ?_
            refine z_get (v := .ref fi) C hz a29 zl7 mFX7_19 (by decide) rfl dX7_tagged_32 ?_
            refine z_getN (v := .int (nI nn)) C hz a32 zl5 mFNX7_201 (by decide) rfl dX7_tagged_35 ?_
            refine lv_icmp_ge (tgt := 77) hx hb dX7_tagged_38 (by decide) (fun c49 => ?_) (fun c49 => ?_)
            · replace c49 : (nn ≤ i) := (nI_leI (a := nn) (b := i) (by omega) (by omega)).mp c49
              refine lv_iload hx hb dX7_tagged_77 (lv_at hl 3 rfl) ?_
              exact z_iret C hr rfl hz hS ⟨u1, u2, u3, gv, nl, gu, nn, ga, gr, fg, pt, kd, ln, pp, wg, wd, hs, bf, nf, gf, fq, fk, fz, fc, nc, gc, cn, ce, cm, sq, mb, ks, kk, kv, lk, (by obtain rfl : i = nn := (by omega); rw [htt, q_tagged, if_pos hFf, if_neg hy1, if_pos hy2, hIf]), rfl, rfl, rfl, rfl, rfl, rfl, rfl, rfl, rfl, rfl, rfl, rfl, rfl, rfl, rfl, rfl, rfl, rfl, rfl, rfl, rfl, rfl, rfl, rfl, ⟨a29, a30, a31, a32, a33, a34, a35, a36, a37, a38, a39, a40, a41, F42, F43, F44, F45, F46, F47, F48, hn60, hl12, hf6, hc60, hs40, hga, hgr, hln, hk5, hk4, hfi, hpi, har, hgf, hfz, hgc, hG, hsq, hei, hmi, kne, hca, hcr, hlk⟩⟩ (Nat.le_of_ble_eq_true rfl) (Nat.le_of_ble_eq_true rfl) dX7_tagged_79
            · replace c49 : ¬ (nn ≤ i) := fun h => c49 ((nI_leI (a := nn) (b := i) (by omega) (by omega)).mpr h)
              refine lv_aload_n hx hb dX7_tagged_41 rfl (lv_at hl 0 rfl) ?_
              refine z_get (v := .ref fi) C hz a29 zl7 mFX7_19 (by decide) rfl dX7_tagged_42 ?_
              refine lv_iload hx hb dX7_tagged_45 (lv_at hl 4 rfl) ?_
              refine lv_i2l (v := (nI i).toInt64) hx hb dX7_tagged_47 rfl ?_
              refine z_callVq (As := [.long ((nI i).toInt64)]) C hz hS hA hl (k_X5_find_A l D cy fL27 fi al ra ga nn fg ((nI i).toInt64) i a32 a33 hn60 hga (nI_l (by omega)) (by omega)) zyX5_find mMX7_130 a32 zl5 rfl rfl (Nat.le_of_ble_eq_true rfl) ⟨Nat.le_of_ble_eq_true rfl, Nat.le_of_ble_eq_true rfl⟩ ⟨Nat.le_of_ble_eq_true rfl, Nat.le_of_ble_eq_true rfl⟩ dX7_tagged_48 (fun r f50 H locs h51 hz hS => ?_)
              obtain ⟨rfl, k52⟩ := h51
              refine W.eq (g2 := F0 m 51 ls [.ref (fg i)]) rfl ?_
              refine lv_astore (lv' := [(6, .ref (fg i)), (0, .ref o), (2, .int y), (3, .ref (fq jf)), (4, .int tt), (5, .int (nI i))]) hx hb dX7_tagged_51 hl (by decide) rfl (fun ls hl => ?_)
              refine lv_aload hx hb dX7_tagged_53 (lv_at hl 0 rfl) ?_
              refine lv_ifnull hx hb dX7_tagged_55 ?_
              refine lv_aload_n hx hb dX7_tagged_58 rfl (lv_at hl 3 rfl) ?_
              refine lv_aload hx hb dX7_tagged_59 (lv_at hl 0 rfl) ?_
              have F53 : ∀ i9 : Nat, i9 < nf → f50 (fq i9) = some (.inr (3, [.ref (fk i9), .int (nI (fz i9))])) := fun i9 h9 => k52 _ _ (F44 i9 h9) 
              have a54 : f50 (fq jf) = some (.inr (3, [.ref (fk jf), .int (nI (fz jf))])) := F53 jf hjf
              have F55 : ∀ i9 : Nat, i9 < nf → f50 (fk i9) = some (.inl (cy 0, 4, .inl (fc i9))) := fun i9 h9 => k52 _ _ (F45 i9 h9) 
              have a56 : f50 (fk jf) = some (.inl (cy 0, 4, .inl (fc jf))) := F55 jf hjf
              have F57 : ∀ i9 : Nat, i9 < nn → f50 (fg i9) = some (.inr (4, [.int (kd i9), .ref (pt i9), .long (wg i9), .int (wd i9), .int (nI i9), .int (hs i9), .int (bf i9)])) := fun i9 h9 => k52 _ _ (F42 i9 h9) 
              have a58 : f50 (fg i) = some (.inr (4, [.int (kd i), .ref (pt i), .long (wg i), .int (wd i), .int (nI i), .int (hs i), .int (bf i)])) := F57 i (show i < nn by omega)
              refine z_callVi (As := [.ref (fg i)]) C hz hS hA hl (k_X3_tagOf l D cy f50 (fq jf) (fk jf) (fz jf) (fc jf) (fg i) (kd i) (pt i) (wg i) (wd i) (nI i) (hs i) (bf i) a54 a56 a58 (hfz jf hjf)) zyX3_tagOf mMX7_198 a54 zl3 rfl rfl (Nat.le_of_ble_eq_true rfl) ⟨Nat.le_of_ble_eq_true rfl, Nat.le_of_ble_eq_true rfl⟩ ⟨Nat.le_of_ble_eq_true rfl, Nat.le_of_ble_eq_true rfl⟩ dX7_tagged_61 (fun r f59 H locs h60 hz hS => ?_)
              obtain ⟨rfl, k61⟩ := h60
              refine lv_iload_n hx hb dX7_tagged_64 rfl (lv_at hl 2 rfl) ?_
              refine lv_icmp_ne (tgt := 71) hx hb dX7_tagged_65 (by decide) (fun c62 => ?_) (fun c62 => ?_)
              · refine lv_iinc (v := nI (i + 1)) (lv' := [(5, .int (nI (i + 1))), (6, .ref (fg i)), (0, .ref o), (2, .int y), (3, .ref (fq jf)), (4, .int tt)]) hx hb dX7_tagged_71 hl (k := 5) rfl (nI_1 i) (by decide) rfl (fun ls hl => ?_)
                refine lv_goto (tgt := 29) hx hb dX7_tagged_74 (by decide) ?_
                have a63 : f50 o = some (.inr (7, [.ref fa, .ref fi, .ref nu, .int (nI nl), .ref fm, .int (nI nf), .ref co, .int (nI nc), .ref en, .ref ke, .long lk])) := k52 _ _ a29 
                have a64 : f59 o = some (.inr (7, [.ref fa, .ref fi, .ref nu, .int (nI nl), .ref fm, .int (nI nf), .ref co, .int (nI nc), .ref en, .ref ke, .long lk])) := k61 _ _ a63 
                have a65 : f50 fa = some (.inr (2, [.int u1, .int u2, .int u3, .ref ev])) := k52 _ _ a30 
                have a66 : f59 fa = some (.inr (2, [.int u1, .int u2, .int u3, .ref ev])) := k61 _ _ a65 
                have a67 : f50 ev = some (.inl (cy 0, 8, .inl gv)) := k52 _ _ a31 
                have a68 : f59 ev = some (.inl (cy 0, 8, .inl gv)) := k61 _ _ a67 
                have a69 : f50 fi = some (.inr (5, [.ref al, .ref ra, .int (nI nn)])) := k52 _ _ a32 
                have a70 : f59 fi = some (.inr (5, [.ref al, .ref ra, .int (nI nn)])) := k61 _ _ a69 
                have a71 : f50 al = some (.inl (cy 3, 60, .inr (.inr (.inr (.inr ga))))) := k52 _ _ a33 
                have a72 : f59 al = some (.inl (cy 3, 60, .inr (.inr (.inr (.inr ga))))) := k61 _ _ a71 
                have a73 : f50 ra = some (.inl (cy 3, 60, .inr (.inr (.inr (.inr gr))))) := k52 _ _ a34 
                have a74 : f59 ra = some (.inl (cy 3, 60, .inr (.inr (.inr (.inr gr))))) := k61 _ _ a73 
                have a75 : f50 nu = some (.inl (cy 0, 12, .inl gu)) := k52 _ _ a35 
                have a76 : f59 nu = some (.inl (cy 0, 12, .inl gu)) := k61 _ _ a75 
                have a77 : f50 fm = some (.inl (cy 4, 6, .inr (.inr (.inr (.inr gf))))) := k52 _ _ a36 
                have a78 : f59 fm = some (.inl (cy 4, 6, .inr (.inr (.inr (.inr gf))))) := k61 _ _ a77 
                have a79 : f50 co = some (.inl (cy 5, 60, .inr (.inr (.inr (.inr gc))))) := k52 _ _ a37 
                have a80 : f59 co = some (.inl (cy 5, 60, .inr (.inr (.inr (.inr gc))))) := k61 _ _ a79 
                have a81 : f50 en = some (.inl (cy 6, 4, .inr (.inr (.inr (.inr ge))))) := k52 _ _ a38 
                have a82 : f59 en = some (.inl (cy 6, 4, .inr (.inr (.inr (.inr ge))))) := k61 _ _ a81 
                have a83 : f50 ke = some (.inr (6, [.ref kn, .ref vq, .int (nI ks)])) := k52 _ _ a39 
                have a84 : f59 ke = some (.inr (6, [.ref kn, .ref vq, .int (nI ks)])) := k61 _ _ a83 
                have a85 : f50 kn = some (.inl (cy 0, 40, .inl kk)) := k52 _ _ a40 
                have a86 : f59 kn = some (.inl (cy 0, 40, .inl kk)) := k61 _ _ a85 
                have a87 : f50 vq = some (.inl (cy 0, 40, .inl kv)) := k52 _ _ a41 
                have a88 : f59 vq = some (.inl (cy 0, 40, .inl kv)) := k61 _ _ a87 
                have F89 : ∀ i9 : Nat, i9 < nn → f59 (fg i9) = some (.inr (4, [.int (kd i9), .ref (pt i9), .long (wg i9), .int (wd i9), .int (nI i9), .int (hs i9), .int (bf i9)])) := fun i9 h9 => k61 _ _ (F57 i9 h9) 
                have F90 : ∀ i9 : Nat, i9 < nn → f50 (pt i9) = some (.inl (cy 1, (ln i9), .inr (.inl (pp i9)))) := fun i9 h9 => k52 _ _ (F43 i9 h9) 
                have F91 : ∀ i9 : Nat, i9 < nn → f59 (pt i9) = some (.inl (cy 1, (ln i9), .inr (.inl (pp i9)))) := fun i9 h9 => k61 _ _ (F90 i9 h9) 
                have F92 : ∀ i9 : Nat, i9 < nf → f59 (fq i9) = some (.inr (3, [.ref (fk i9), .int (nI (fz i9))])) := fun i9 h9 => k61 _ _ (F53 i9 h9) 
                have F93 : ∀ i9 : Nat, i9 < nf → f59 (fk i9) = some (.inl (cy 0, 4, .inl (fc i9))) := fun i9 h9 => k61 _ _ (F55 i9 h9) 
                have F94 : ∀ i9 : Nat, i9 < nc → f50 (cn i9) = some (.inr (0, [.int (ce i9), .int (cm i9)])) := fun i9 h9 => k52 _ _ (F46 i9 h9) 
                have F95 : ∀ i9 : Nat, i9 < nc → f59 (cn i9) = some (.inr (0, [.int (ce i9), .int (cm i9)])) := fun i9 h9 => k61 _ _ (F94 i9 h9) 
                have F96 : ∀ i9 : Nat, i9 < 4 → f50 (ea i9) = some (.inr (1, [.ref (ma i9), .int (nI (sq i9))])) := fun i9 h9 => k52 _ _ (F47 i9 h9) 
                have F97 : ∀ i9 : Nat, i9 < 4 → f59 (ea i9) = some (.inr (1, [.ref (ma i9), .int (nI (sq i9))])) := fun i9 h9 => k61 _ _ (F96 i9 h9) 
                have F98 : ∀ i9 : Nat, i9 < 4 → f50 (ma i9) = some (.inl (cy 0, 60, .inl (mb i9))) := fun i9 h9 => k52 _ _ (F48 i9 h9) 
                have F99 : ∀ i9 : Nat, i9 < 4 → f59 (ma i9) = some (.inl (cy 0, 60, .inl (mb i9))) := fun i9 h9 => k61 _ _ (F98 i9 h9) 
                exact ih (i + 1) tt _ _ _ _ (by omega) (by omega) (by rw [zTC, if_neg c62]; exact htt) a64 a66 a68 a70 a72 a74 a76 a78 a80 a82 a84 a86 a88 F89 F91 F92 F93 F95 F97 F99 (by
                      intro b e hb 
                      have hb1 : fL27 b = some e := k28 b e hb 
                      have hb2 : f50 b = some e := k52 b e hb1 
                      have hb3 : f59 b = some e := k61 b e hb2 
                      exact hb3) hz hS (lv_sub hl [2, 3, 4, 5, 0] rfl)
              · refine lv_iinc (v := tt + 1) (lv' := [(4, .int (tt + 1)), (6, .ref (fg i)), (0, .ref o), (2, .int y), (3, .ref (fq jf)), (5, .int (nI i))]) hx hb dX7_tagged_68 hl (k := 4) rfl rfl (by decide) rfl (fun ls hl => ?_)
                refine lv_iinc (v := nI (i + 1)) (lv' := [(5, .int (nI (i + 1))), (4, .int (tt + 1)), (6, .ref (fg i)), (0, .ref o), (2, .int y), (3, .ref (fq jf))]) hx hb dX7_tagged_71 hl (k := 5) rfl (nI_1 i) (by decide) rfl (fun ls hl => ?_)
                refine lv_goto (tgt := 29) hx hb dX7_tagged_74 (by decide) ?_
                have a100 : f50 o = some (.inr (7, [.ref fa, .ref fi, .ref nu, .int (nI nl), .ref fm, .int (nI nf), .ref co, .int (nI nc), .ref en, .ref ke, .long lk])) := k52 _ _ a29 
                have a101 : f59 o = some (.inr (7, [.ref fa, .ref fi, .ref nu, .int (nI nl), .ref fm, .int (nI nf), .ref co, .int (nI nc), .ref en, .ref ke, .long lk])) := k61 _ _ a100 
                have a102 : f50 fa = some (.inr (2, [.int u1, .int u2, .int u3, .ref ev])) := k52 _ _ a30 
                have a103 : f59 fa = some (.inr (2, [.int u1, .int u2, .int u3, .ref ev])) := k61 _ _ a102 
                have a104 : f50 ev = some (.inl (cy 0, 8, .inl gv)) := k52 _ _ a31 
                have a105 : f59 ev = some (.inl (cy 0, 8, .inl gv)) := k61 _ _ a104 
                have a106 : f50 fi = some (.inr (5, [.ref al, .ref ra, .int (nI nn)])) := k52 _ _ a32 
                have a107 : f59 fi = some (.inr (5, [.ref al, .ref ra, .int (nI nn)])) := k61 _ _ a106 
                have a108 : f50 al = some (.inl (cy 3, 60, .inr (.inr (.inr (.inr ga))))) := k52 _ _ a33 
                have a109 : f59 al = some (.inl (cy 3, 60, .inr (.inr (.inr (.inr ga))))) := k61 _ _ a108 
                have a110 : f50 ra = some (.inl (cy 3, 60, .inr (.inr (.inr (.inr gr))))) := k52 _ _ a34 
                have a111 : f59 ra = some (.inl (cy 3, 60, .inr (.inr (.inr (.inr gr))))) := k61 _ _ a110 
                have a112 : f50 nu = some (.inl (cy 0, 12, .inl gu)) := k52 _ _ a35 
                have a113 : f59 nu = some (.inl (cy 0, 12, .inl gu)) := k61 _ _ a112 
                have a114 : f50 fm = some (.inl (cy 4, 6, .inr (.inr (.inr (.inr gf))))) := k52 _ _ a36 
                have a115 : f59 fm = some (.inl (cy 4, 6, .inr (.inr (.inr (.inr gf))))) := k61 _ _ a114 
                have a116 : f50 co = some (.inl (cy 5, 60, .inr (.inr (.inr (.inr gc))))) := k52 _ _ a37 
                have a117 : f59 co = some (.inl (cy 5, 60, .inr (.inr (.inr (.inr gc))))) := k61 _ _ a116 
                have a118 : f50 en = some (.inl (cy 6, 4, .inr (.inr (.inr (.inr ge))))) := k52 _ _ a38 
                have a119 : f59 en = some (.inl (cy 6, 4, .inr (.inr (.inr (.inr ge))))) := k61 _ _ a118 
                have a120 : f50 ke = some (.inr (6, [.ref kn, .ref vq, .int (nI ks)])) := k52 _ _ a39 
                have a121 : f59 ke = some (.inr (6, [.ref kn, .ref vq, .int (nI ks)])) := k61 _ _ a120 
                have a122 : f50 kn = some (.inl (cy 0, 40, .inl kk)) := k52 _ _ a40 
                have a123 : f59 kn = some (.inl (cy 0, 40, .inl kk)) := k61 _ _ a122 
                have a124 : f50 vq = some (.inl (cy 0, 40, .inl kv)) := k52 _ _ a41 
                have a125 : f59 vq = some (.inl (cy 0, 40, .inl kv)) := k61 _ _ a124 
                have F126 : ∀ i9 : Nat, i9 < nn → f59 (fg i9) = some (.inr (4, [.int (kd i9), .ref (pt i9), .long (wg i9), .int (wd i9), .int (nI i9), .int (hs i9), .int (bf i9)])) := fun i9 h9 => k61 _ _ (F57 i9 h9) 
                have F127 : ∀ i9 : Nat, i9 < nn → f50 (pt i9) = some (.inl (cy 1, (ln i9), .inr (.inl (pp i9)))) := fun i9 h9 => k52 _ _ (F43 i9 h9) 
                have F128 : ∀ i9 : Nat, i9 < nn → f59 (pt i9) = some (.inl (cy 1, (ln i9), .inr (.inl (pp i9)))) := fun i9 h9 => k61 _ _ (F127 i9 h9) 
                have F129 : ∀ i9 : Nat, i9 < nf → f59 (fq i9) = some (.inr (3, [.ref (fk i9), .int (nI (fz i9))])) := fun i9 h9 => k61 _ _ (F53 i9 h9) 
                have F130 : ∀ i9 : Nat, i9 < nf → f59 (fk i9) = some (.inl (cy 0, 4, .inl (fc i9))) := fun i9 h9 => k61 _ _ (F55 i9 h9) 
                have F131 : ∀ i9 : Nat, i9 < nc → f50 (cn i9) = some (.inr (0, [.int (ce i9), .int (cm i9)])) := fun i9 h9 => k52 _ _ (F46 i9 h9) 
                have F132 : ∀ i9 : Nat, i9 < nc → f59 (cn i9) = some (.inr (0, [.int (ce i9), .int (cm i9)])) := fun i9 h9 => k61 _ _ (F131 i9 h9) 
                have F133 : ∀ i9 : Nat, i9 < 4 → f50 (ea i9) = some (.inr (1, [.ref (ma i9), .int (nI (sq i9))])) := fun i9 h9 => k52 _ _ (F47 i9 h9) 
                have F134 : ∀ i9 : Nat, i9 < 4 → f59 (ea i9) = some (.inr (1, [.ref (ma i9), .int (nI (sq i9))])) := fun i9 h9 => k61 _ _ (F133 i9 h9) 
                have F135 : ∀ i9 : Nat, i9 < 4 → f50 (ma i9) = some (.inl (cy 0, 60, .inl (mb i9))) := fun i9 h9 => k52 _ _ (F48 i9 h9) 
                have F136 : ∀ i9 : Nat, i9 < 4 → f59 (ma i9) = some (.inl (cy 0, 60, .inl (mb i9))) := fun i9 h9 => k61 _ _ (F135 i9 h9) 
                exact ih (i + 1) (tt + 1) _ _ _ _ (by omega) (by omega) (by rw [zTC, if_pos c62, htt]) a101 a103 a105 a107 a109 a111 a113 a115 a117 a119 a121 a123 a125 F126 F128 F129 F130 F132 F134 F136 (by
                      intro b e hb 
                      have hb1 : fL27 b = some e := k28 b e hb 
                      have hb2 : f50 b = some e := k52 b e hb1 
                      have hb3 : f59 b = some e := k61 b e hb2 
                      exact hb3) hz hS (lv_sub hl [3, 4, 5, 1, 0] rfl)
        have a137 : f1 o = some (.inr (7, [.ref fa, .ref fi, .ref nu, .int (nI nl), .ref fm, .int (nI nf), .ref co, .int (nI nc), .ref en, .ref ke, .long lk])) := k3 _ _ x_o 
        have a138 : f1 fa = some (.inr (2, [.int u1, .int u2, .int u3, .ref ev])) := k3 _ _ x_fa 
        have a139 : f1 ev = some (.inl (cy 0, 8, .inl gv)) := k3 _ _ x_ev 
        have a140 : f1 fi = some (.inr (5, [.ref al, .ref ra, .int (nI nn)])) := k3 _ _ x_fi 
        have a141 : f1 al = some (.inl (cy 3, 60, .inr (.inr (.inr (.inr ga))))) := k3 _ _ x_al 
        have a142 : f1 ra = some (.inl (cy 3, 60, .inr (.inr (.inr (.inr gr))))) := k3 _ _ x_ra 
        have a143 : f1 nu = some (.inl (cy 0, 12, .inl gu)) := k3 _ _ x_nu 
        have a144 : f1 fm = some (.inl (cy 4, 6, .inr (.inr (.inr (.inr gf))))) := k3 _ _ x_fm 
        have a145 : f1 co = some (.inl (cy 5, 60, .inr (.inr (.inr (.inr gc))))) := k3 _ _ x_co 
        have a146 : f1 en = some (.inl (cy 6, 4, .inr (.inr (.inr (.inr ge))))) := k3 _ _ x_en 
        have a147 : f1 ke = some (.inr (6, [.ref kn, .ref vq, .int (nI ks)])) := k3 _ _ x_ke 
        have a148 : f1 kn = some (.inl (cy 0, 40, .inl kk)) := k3 _ _ x_kn 
        have a149 : f1 vq = some (.inl (cy 0, 40, .inl kv)) := k3 _ _ x_vq 
        have F150 : ∀ i9 : Nat, i9 < nn → f1 (fg i9) = some (.inr (4, [.int (kd i9), .ref (pt i9), .long (wg i9), .int (wd i9), .int (nI i9), .int (hs i9), .int (bf i9)])) := fun i9 h9 => k3 _ _ (hF i9 h9) 
        have F151 : ∀ i9 : Nat, i9 < nn → f1 (pt i9) = some (.inl (cy 1, (ln i9), .inr (.inl (pp i9)))) := fun i9 h9 => k3 _ _ (hP i9 h9) 
        have F152 : ∀ i9 : Nat, i9 < nf → f1 (fq i9) = some (.inr (3, [.ref (fk i9), .int (nI (fz i9))])) := fun i9 h9 => k3 _ _ (hFq i9 h9) 
        have F153 : ∀ i9 : Nat, i9 < nf → f1 (fk i9) = some (.inl (cy 0, 4, .inl (fc i9))) := fun i9 h9 => k3 _ _ (hFk i9 h9) 
        have F154 : ∀ i9 : Nat, i9 < nc → f1 (cn i9) = some (.inr (0, [.int (ce i9), .int (cm i9)])) := fun i9 h9 => k3 _ _ (hCn i9 h9) 
        have F155 : ∀ i9 : Nat, i9 < 4 → f1 (ea i9) = some (.inr (1, [.ref (ma i9), .int (nI (sq i9))])) := fun i9 h9 => k3 _ _ (hEa i9 h9) 
        have F156 : ∀ i9 : Nat, i9 < 4 → f1 (ma i9) = some (.inl (cy 0, 60, .inl (mb i9))) := fun i9 h9 => k3 _ _ (hMa i9 h9) 
        exact lp26 (nn - 0 + 1) 0 0 _ _ _ _ (Nat.lt_succ_self _) (by omega) rfl a137 a138 a139 a140 a141 a142 a143 a144 a145 a146 a147 a148 a149 F150 F151 F152 F153 F154 F155 F156 (fun b e hb => hb) hz hS (lv_sub hl [3, 5, 2, 1, 0] rfl)
      · have hy2 : ¬ y ≤ 3 := fun h9 => c25 (z_le3 h9)
        refine lv_bipush (v := (-2)) hx hb dX7_tagged_20 (by decide) ?_
        have a157 : f1 o = some (.inr (7, [.ref fa, .ref fi, .ref nu, .int (nI nl), .ref fm, .int (nI nf), .ref co, .int (nI nc), .ref en, .ref ke, .long lk])) := k3 _ _ x_o 
        have a158 : f1 fa = some (.inr (2, [.int u1, .int u2, .int u3, .ref ev])) := k3 _ _ x_fa 
        have a159 : f1 ev = some (.inl (cy 0, 8, .inl gv)) := k3 _ _ x_ev 
        have a160 : f1 fi = some (.inr (5, [.ref al, .ref ra, .int (nI nn)])) := k3 _ _ x_fi 
        have a161 : f1 al = some (.inl (cy 3, 60, .inr (.inr (.inr (.inr ga))))) := k3 _ _ x_al 
        have a162 : f1 ra = some (.inl (cy 3, 60, .inr (.inr (.inr (.inr gr))))) := k3 _ _ x_ra 
        have a163 : f1 nu = some (.inl (cy 0, 12, .inl gu)) := k3 _ _ x_nu 
        have a164 : f1 fm = some (.inl (cy 4, 6, .inr (.inr (.inr (.inr gf))))) := k3 _ _ x_fm 
        have a165 : f1 co = some (.inl (cy 5, 60, .inr (.inr (.inr (.inr gc))))) := k3 _ _ x_co 
        have a166 : f1 en = some (.inl (cy 6, 4, .inr (.inr (.inr (.inr ge))))) := k3 _ _ x_en 
        have a167 : f1 ke = some (.inr (6, [.ref kn, .ref vq, .int (nI ks)])) := k3 _ _ x_ke 
        have a168 : f1 kn = some (.inl (cy 0, 40, .inl kk)) := k3 _ _ x_kn 
        have a169 : f1 vq = some (.inl (cy 0, 40, .inl kv)) := k3 _ _ x_vq 
        have F170 : ∀ i9 : Nat, i9 < nn → f1 (fg i9) = some (.inr (4, [.int (kd i9), .ref (pt i9), .long (wg i9), .int (wd i9), .int (nI i9), .int (hs i9), .int (bf i9)])) := fun i9 h9 => k3 _ _ (hF i9 h9) 
        have F171 : ∀ i9 : Nat, i9 < nn → f1 (pt i9) = some (.inl (cy 1, (ln i9), .inr (.inl (pp i9)))) := fun i9 h9 => k3 _ _ (hP i9 h9) 
        have F172 : ∀ i9 : Nat, i9 < nf → f1 (fq i9) = some (.inr (3, [.ref (fk i9), .int (nI (fz i9))])) := fun i9 h9 => k3 _ _ (hFq i9 h9) 
        have F173 : ∀ i9 : Nat, i9 < nf → f1 (fk i9) = some (.inl (cy 0, 4, .inl (fc i9))) := fun i9 h9 => k3 _ _ (hFk i9 h9) 
        have F174 : ∀ i9 : Nat, i9 < nc → f1 (cn i9) = some (.inr (0, [.int (ce i9), .int (cm i9)])) := fun i9 h9 => k3 _ _ (hCn i9 h9) 
        have F175 : ∀ i9 : Nat, i9 < 4 → f1 (ea i9) = some (.inr (1, [.ref (ma i9), .int (nI (sq i9))])) := fun i9 h9 => k3 _ _ (hEa i9 h9) 
        have F176 : ∀ i9 : Nat, i9 < 4 → f1 (ma i9) = some (.inl (cy 0, 60, .inl (mb i9))) := fun i9 h9 => k3 _ _ (hMa i9 h9) 
        exact z_iret C hr rfl hz hS ⟨u1, u2, u3, gv, nl, gu, nn, ga, gr, fg, pt, kd, ln, pp, wg, wd, hs, bf, nf, gf, fq, fk, fz, fc, nc, gc, cn, ce, cm, sq, mb, ks, kk, kv, lk, (by simp [q_tagged, hFf, hIf, hy1, hy2, c4, c25]), rfl, rfl, rfl, rfl, rfl, rfl, rfl, rfl, rfl, rfl, rfl, rfl, rfl, rfl, rfl, rfl, rfl, rfl, rfl, rfl, rfl, rfl, rfl, rfl, ⟨a157, a158, a159, a160, a161, a162, a163, a164, a165, a166, a167, a168, a169, F170, F171, F172, F173, F174, F175, F176, hn60, hl12, hf6, hc60, hs40, hga, hgr, hln, hk5, hk4, hfi, hpi, har, hgf, hfz, hgc, hG, hsq, hei, hmi, kne, hca, hcr, hlk⟩⟩ (Nat.le_of_ble_eq_true rfl) (Nat.le_of_ble_eq_true rfl) dX7_tagged_22
  · have hFf : isF nf x = false := isF_f (by omega) hvf
    refine z_callVq (As := [.int x]) C hz hS hA hl (k_X7_findFamily_B l D cy f o fa fi nu nl fm nf co nc en ke lk x x_o hvf (by omega)) zyX7_findFamily mMX7_194 x_o zl7 rfl rfl (Nat.le_of_ble_eq_true rfl) ⟨Nat.le_of_ble_eq_true rfl, Nat.le_of_ble_eq_true rfl⟩ ⟨Nat.le_of_ble_eq_true rfl, Nat.le_of_ble_eq_true rfl⟩ dX7_tagged_2 (fun r f177 H locs h178 hz hS => ?_)
    obtain ⟨rfl, k179⟩ := h178
    refine W.eq (g2 := F0 m 5 ls [.null]) rfl ?_
    refine lv_astore_nN (lv' := [(3, .null), (0, .ref o), (1, .int x), (2, .int y)]) hx hb dX7_tagged_5 rfl hl (by decide) rfl (fun ls hl => ?_)
    refine lv_aload_nN hx hb dX7_tagged_6 rfl (lv_at hl 0 rfl) ?_
    refine lv_ifnullN (tgt := 20) hx hb dX7_tagged_7 (by decide) ?_
    refine lv_bipush (v := (-2)) hx hb dX7_tagged_20 (by decide) ?_
    have a180 : f177 o = some (.inr (7, [.ref fa, .ref fi, .ref nu, .int (nI nl), .ref fm, .int (nI nf), .ref co, .int (nI nc), .ref en, .ref ke, .long lk])) := k179 _ _ x_o 
    have a181 : f177 fa = some (.inr (2, [.int u1, .int u2, .int u3, .ref ev])) := k179 _ _ x_fa 
    have a182 : f177 ev = some (.inl (cy 0, 8, .inl gv)) := k179 _ _ x_ev 
    have a183 : f177 fi = some (.inr (5, [.ref al, .ref ra, .int (nI nn)])) := k179 _ _ x_fi 
    have a184 : f177 al = some (.inl (cy 3, 60, .inr (.inr (.inr (.inr ga))))) := k179 _ _ x_al 
    have a185 : f177 ra = some (.inl (cy 3, 60, .inr (.inr (.inr (.inr gr))))) := k179 _ _ x_ra 
    have a186 : f177 nu = some (.inl (cy 0, 12, .inl gu)) := k179 _ _ x_nu 
    have a187 : f177 fm = some (.inl (cy 4, 6, .inr (.inr (.inr (.inr gf))))) := k179 _ _ x_fm 
    have a188 : f177 co = some (.inl (cy 5, 60, .inr (.inr (.inr (.inr gc))))) := k179 _ _ x_co 
    have a189 : f177 en = some (.inl (cy 6, 4, .inr (.inr (.inr (.inr ge))))) := k179 _ _ x_en 
    have a190 : f177 ke = some (.inr (6, [.ref kn, .ref vq, .int (nI ks)])) := k179 _ _ x_ke 
    have a191 : f177 kn = some (.inl (cy 0, 40, .inl kk)) := k179 _ _ x_kn 
    have a192 : f177 vq = some (.inl (cy 0, 40, .inl kv)) := k179 _ _ x_vq 
    have F193 : ∀ i9 : Nat, i9 < nn → f177 (fg i9) = some (.inr (4, [.int (kd i9), .ref (pt i9), .long (wg i9), .int (wd i9), .int (nI i9), .int (hs i9), .int (bf i9)])) := fun i9 h9 => k179 _ _ (hF i9 h9) 
    have F194 : ∀ i9 : Nat, i9 < nn → f177 (pt i9) = some (.inl (cy 1, (ln i9), .inr (.inl (pp i9)))) := fun i9 h9 => k179 _ _ (hP i9 h9) 
    have F195 : ∀ i9 : Nat, i9 < nf → f177 (fq i9) = some (.inr (3, [.ref (fk i9), .int (nI (fz i9))])) := fun i9 h9 => k179 _ _ (hFq i9 h9) 
    have F196 : ∀ i9 : Nat, i9 < nf → f177 (fk i9) = some (.inl (cy 0, 4, .inl (fc i9))) := fun i9 h9 => k179 _ _ (hFk i9 h9) 
    have F197 : ∀ i9 : Nat, i9 < nc → f177 (cn i9) = some (.inr (0, [.int (ce i9), .int (cm i9)])) := fun i9 h9 => k179 _ _ (hCn i9 h9) 
    have F198 : ∀ i9 : Nat, i9 < 4 → f177 (ea i9) = some (.inr (1, [.ref (ma i9), .int (nI (sq i9))])) := fun i9 h9 => k179 _ _ (hEa i9 h9) 
    have F199 : ∀ i9 : Nat, i9 < 4 → f177 (ma i9) = some (.inl (cy 0, 60, .inl (mb i9))) := fun i9 h9 => k179 _ _ (hMa i9 h9) 
    exact z_iret C hr rfl hz hS ⟨u1, u2, u3, gv, nl, gu, nn, ga, gr, fg, pt, kd, ln, pp, wg, wd, hs, bf, nf, gf, fq, fk, fz, fc, nc, gc, cn, ce, cm, sq, mb, ks, kk, kv, lk, (by simp [q_tagged, hFf]), rfl, rfl, rfl, rfl, rfl, rfl, rfl, rfl, rfl, rfl, rfl, rfl, rfl, rfl, rfl, rfl, rfl, rfl, rfl, rfl, rfl, rfl, rfl, rfl, ⟨a180, a181, a182, a183, a184, a185, a186, a187, a188, a189, a190, a191, a192, F193, F194, F195, F196, F197, F198, F199, hn60, hl12, hf6, hc60, hs40, hga, hgr, hln, hk5, hk4, hfi, hpi, har, hgf, hfz, hgc, hG, hsq, hei, hmi, kne, hca, hcr, hlk⟩⟩ (Nat.le_of_ble_eq_true rfl) (Nat.le_of_ble_eq_true rfl) dX7_tagged_22
