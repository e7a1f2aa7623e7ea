theorem z_zast {p : Program} {l : Launch} {e : Env} {R : Room} {s : State} {m : MethodId} {args : Array Value} {below : List Frame} {meth : Method} {c : Code} {H : Heap} {locs : List Loc} {cells slots : Nat} {Q : State → Prop} {cc : ByteArray} {pc nL : Nat} {ls : Array Slot} {rest : List Value} {D : va_G} {cy : Nat → ClassId} {A : Nat → Prop} {f : zM} {a : Nat} {H0 : Heap} {own : String} {n : Nat} {g : Nat → Int32} {i : Int32} {x : Int32} (j : Nat) (C : zC D cy p s m args meth c own cc nL) (hz : zH D A f H) (hS : va_S A H0 H locs) (ha : f a = some (.inl (cy 2, n, .inl g))) (hi : i = nI j) (hj : j < n) (hn : n < 2 ^ 31) (hx : vp_nar .boolean x = x) (hdg : decode cc pc = .ok (.bastore, 1))
    (kk : ∀ (H1 : Heap) (locs1 : List Loc) (f1 : zM), f1 a = some (.inl (cy 2, n, .inl (upd g j x))) → (∀ b, b ≠ a → f1 b = f b) → zH D A f1 H1 → va_S A H0 H1 locs1 → W p l e R s m args below meth c H1 locs1 cells slots Q (F0 m (pc + 1) ls rest)) : W p l e R s m args below meth c H locs cells slots Q (F0 m pc ls (.int x :: .int i :: .ref a :: rest)) := by
  subst hi
  obtain ⟨ws, q0, hP, hD, hq, -, hb⟩ := z_set hz ha
  refine va_zast C.1 C.2.1 C.2.2.2.2.2.1 hP hD hS q0 2 hq rfl (vp_in_nI hj hn) hdg (fun H1 locs1 hP1 hD1 hS1 => ?_)
  refine kk H1 locs1 _ ?_ (fun b h => va_up_ne f _ h) (hb _ H1 hP1 hD1) hS1
  rw [nI_clamp (Nat.lt_trans hj hn), hx]
  exact va_up_self f a _
abbrev rmX8_shelf : Room := { frames := 3, cells := 0, slots := 0, locals := 67 }
set_option maxHeartbeats 4000000 in
set_option maxRecDepth 100000 in
theorem k_X8_shelf (l : Launch) (D : va_G) (cy : Nat → ClassId) (f : zM) (o : Nat) (wev : Nat) (wnb : Nat) (wki : Nat) (wmy : Nat) (wce : Nat) (wiw : Nat) (wli : Nat) (wha : Nat) (wwt : Nat) (wfy : Nat) (wfk : Nat) (wem : Nat) (wna : Nat) (wpl : Nat) (whs : Nat) (wk1 : Nat) (wk2 : Nat) (wk3 : Nat) (u1 : Int32) (u2 : Int32) (u3 : Int32) (nl : Nat) (nn : Nat) (nf : Nat) (nc : Nat) (lk : Int64) (ks : Nat) (gv : Nat → Int32) (gu : Nat → Int32) (gk : Nat → Int32) (gm : Nat → Int32) (gc : Nat → Int64) (gw : Nat → Int32) (gl : Nat → Int32) (gh : Nat → Int32) (gt : Nat → Int64) (gy : Nat → Int32) (gq : Nat → Int32) (ge1 : Nat → Int32) (gn1 : Nat → Int32) (gp1 : Nat → Int32) (gs : Nat → Int32) (gx1 : Nat → Int32) (gx2 : Nat → Int32) (gx3 : Nat → Int32) (ln : Nat → Nat) (fz : Nat → Nat) (sq : Nat → Nat) (w : Int32) (x : Int32)   (hw : w = 0 ∨ w = 1) (hI : zIM cy f o wev wnb wki wmy wce wiw wli wha wwt wfy wfk wem wna wpl whs wk1 wk2 wk3 u1 u2 u3 nl nn nf nc lk ks gv gu gk gm gc gw gl gh gt gy gq ge1 gn1 gp1 gs gx1 gx2 gx3 ln fz sq) : zCi l D cy yX8_shelf cX8_shelf 4 (Option.some Jvm.ClassFile.FieldType.int) rmX8_shelf [.ref o, .int w, .int x] f (fun (r : Int32) (f1 : zM) => ∃ (u11 : Int32) (u21 : Int32) (u31 : Int32) (nl1 : Nat) (nn1 : Nat) (nf1 : Nat) (nc1 : Nat) (lk1 : Int64) (ks1 : Nat) (gv1 : Nat → Int32) (gu1 : Nat → Int32) (gk1 : Nat → Int32) (gm1 : Nat → Int32) (gc1 : Nat → Int64) (gw1 : Nat → Int32) (gl1 : Nat → Int32) (gh1 : Nat → Int32) (gt1 : Nat → Int64) (gy1 : Nat → Int32) (gq1 : Nat → Int32) (ge11 : Nat → Int32) (gn11 : Nat → Int32) (gp11 : Nat → Int32) (gs1 : Nat → Int32) (gx11 : Nat → Int32) (gx21 : Nat → Int32) (gx31 : Nat → Int32) (ln1 : Nat → Nat) (fz1 : Nat → Nat) (sq1 : Nat → Nat), r = ((q_shelf nn x).1) ∧ (u11 = (q_shelf nn x).2.1) ∧ (u21 = (q_shelf nn x).2.2.1) ∧ (u31 = (q_shelf nn x).2.2.2) ∧ (gv1 = zEV gv (q_shelf nn x).2.1) ∧ (nl1 = nl) ∧ (gu1 = gu) ∧ (nn1 = if 0 ≤ r then nn + 1 else nn) ∧ (gk1 = if 0 ≤ r then va_up gk nn 6 else gk) ∧ (ln1 = if 0 ≤ r then va_up ln nn (1 + fI x) else ln) ∧ (gw1 = if 0 ≤ r then va_up gw nn w else gw) ∧ (gh1 = if 0 ≤ r then va_up gh nn (zHash 6 nn (1 + fI x) (qshelf x) gh) else gh) ∧ (zGC nn (0 ≤ r) (1 + fI x) (qshelf x) gc gc1) ∧ (nf1 = nf) ∧ (fz1 = fz) ∧ (gq1 = gq) ∧ (nc1 = nc) ∧ (ge11 = ge1) ∧ (gn11 = gn1) ∧ (gp11 = gp1) ∧ (sq1 = sq) ∧ (ks1 = ks) ∧ (gx11 = gx1) ∧ (gx21 = gx2) ∧ (gx31 = gx3) ∧ (lk1 = lk) ∧ zIM cy f1 o wev wnb wki wmy wce wiw wli wha wwt wfy wfk wem wna wpl whs wk1 wk2 wk3 u11 u21 u31 nl1 nn1 nf1 nc1 lk1 ks1 gv1 gu1 gk1 gm1 gc1 gw1 gl1 gh1 gt1 gy1 gq1 ge11 gn11 gp11 gs1 gx11 gx21 gx31 ln1 fz1 sq1) := by
  intro sz
  refine z_body (by decide +kernel) (Nat.le_of_ble_eq_true rfl) ?_
  intro p e s m below meth c ls C hr hin hsz hz hl
  subst hsz
  have hx := C.1
  have hb := C.2.1
  have hA : ∀ q, s.heap.size ≤ q → zA f s.heap.size q := fun q h => Or.inr h
  have hS : va_S (zA f s.heap.size) s.heap s.heap [] := va_S.rf
  have hl : lv_has ls 4 [(0, .ref o), (1, .int w), (2, .int x)] := hl
  obtain ⟨x_o, x_wev, x_wnb, x_wki, x_wmy, x_wce, x_wiw, x_wli, x_wha, x_wwt, x_wfy, x_wfk, x_wem, x_wna, x_wpl, x_whs, x_wk1, x_wk2, x_wk3, hn60, hl12, hf6, hc60, hs40, hMP, hgy, hfz, hgs, hME, hlk, hgw, hfd, n_wki_wmy, n_wki_wiw, n_wki_wli, n_wki_wha, n_wki_wem, n_wki_wna, n_wki_wpl, n_wmy_wiw, n_wmy_wli, n_wmy_wha, n_wmy_wem, n_wmy_wna, n_wmy_wpl, n_wiw_wli, n_wiw_wha, n_wiw_wem, n_wiw_wna, n_wiw_wpl, n_wli_wha, n_wli_wem, n_wli_wna, n_wli_wpl, n_wha_wem, n_wha_wna, n_wha_wpl, n_wem_wna, n_wem_wpl, n_wna_wpl, n_wk1_wk2, n_wk1_wk3, n_wk2_wk3⟩ := id hI
  refine lv_aload_n hx hb dX8_shelf_0 rfl (lv_at hl 0 rfl) ?_
  refine z_callVv (As := []) C hz hS hA hl (k_X8_begin l D cy f o wev wnb wki wmy wce wiw wli wha wwt wfy wfk wem wna wpl whs wk1 wk2 wk3 u1 u2 u3 nl nn nf nc lk ks x_o ) zyX8_begin mMX8_116 x_o zl8 rfl rfl (Nat.le_of_ble_eq_true rfl) ⟨Nat.le_of_ble_eq_true rfl, Nat.le_of_ble_eq_true rfl⟩ ⟨Nat.le_of_ble_eq_true rfl, Nat.le_of_ble_eq_true rfl⟩ dX8_shelf_1 (fun  f1 H locs h2 hz hS => ?_)
  obtain ⟨a3, k4⟩ := h2
  refine lv_iload_n hx hb dX8_shelf_4 rfl (lv_at hl 2 rfl) ?_
  refine lv_bipush (v := 12) hx hb dX8_shelf_5 (by decide) ?_
  refine lv_icmp_le (tgt := 13) hx hb dX8_shelf_7 (by decide) (fun c5 => ?_) (fun c5 => ?_)
  · refine lv_aload_n hx hb dX8_shelf_13 rfl (lv_at hl 0 rfl) ?_
    refine z_get (v := .int (nI nn)) C hz a3 zl8 mFX8_83 (by decide) rfl dX8_shelf_14 ?_
    refine lv_bipush (v := 60) hx hb dX8_shelf_17 (by decide) ?_
    refine lv_icmp_ne (tgt := 25) hx hb dX8_shelf_19 (by decide) (fun c6 => ?_) (fun c6 => ?_)
    · replace c6 : ¬ (nn = 60) := fun h => c6 ((nI_eq (a := nn) (b := 60) (by omega) (by omega)).mpr h)
      have h60 : nn < 60 := by omega
      refine lv_iload_n hx hb dX8_shelf_25 rfl (lv_at hl 2 rfl) ?_
      refine lv_if_ge (tgt := 37) hx hb dX8_shelf_26 (by decide) (fun c7 => ?_) (fun c7 => ?_)
      · obtain ⟨t, ht, hxt⟩ := z_ixn (n := 12) (by decide) c7 c5
        have hIx : fI x = t := fI_of (by omega) hxt
        refine lv_aload_n hx hb dX8_shelf_37 rfl (lv_at hl 0 rfl) ?_
        refine lv_bipush (v := 6) hx hb dX8_shelf_38 (by decide) ?_
        have a8 : f1 wki = some (.inl (cy 0, 60, .inl gk)) := k4 _ _ x_wki (z_ne x_wki x_o rfl)
        have a9 : f1 wmy = some (.inl (cy 0, 60, .inl gm)) := k4 _ _ x_wmy (z_ne x_wmy x_o rfl)
        refine z_callVv (As := [.int 6]) C hz hS hA hl (k_X8_start l D cy f1 o wev wnb wki wmy wce wiw wli wha wwt wfy wfk wem wna wpl whs wk1 wk2 wk3 0 (-1) 0 nl nn nf nc lk ks gk gm 6 a3 a8 a9 (by omega) n_wki_wmy) zyX8_start mMX8_119 a3 zl8 rfl rfl (Nat.le_of_ble_eq_true rfl) ⟨Nat.le_of_ble_eq_true rfl, Nat.le_of_ble_eq_true rfl⟩ ⟨Nat.le_of_ble_eq_true rfl, Nat.le_of_ble_eq_true rfl⟩ dX8_shelf_40 (fun  f10 H locs h11 hz hS => ?_)
        obtain ⟨a12, a13, k14⟩ := h11
        refine lv_aload_n hx hb dX8_shelf_43 rfl (lv_at hl 0 rfl) ?_
        have a15 : f10 o = some (.inr (8, [.int 0, .int (-1), .int 0, .ref wev, .int (nI nl), .ref wnb, .int (nI nn), .ref wki, .ref wmy, .ref wce, .ref wiw, .ref wli, .ref wha, .ref wwt, .int (nI nf), .ref wfy, .ref wfk, .int (nI nc), .ref wem, .ref wna, .ref wpl, .ref whs, .long lk, .int (nI ks), .ref wk1, .ref wk2, .ref wk3])) := k14 _ _ a3 (z_ne a3 a8 rfl) (z_ne a3 a9 rfl)
        refine z_get (v := .ref wiw) C hz a15 zl8 mFX8_30 (by decide) rfl dX8_shelf_44 ?_
        refine lv_aload_n hx hb dX8_shelf_47 rfl (lv_at hl 0 rfl) ?_
        refine z_get (v := .int (nI nn)) C hz a15 zl8 mFX8_83 (by decide) rfl dX8_shelf_48 ?_
        refine lv_iload_n hx hb dX8_shelf_51 rfl (lv_at hl 1 rfl) ?_
        have a16 : f1 wiw = some (.inl (cy 2, 60, .inl gw)) := k4 _ _ x_wiw (z_ne x_wiw x_o rfl)
        have a17 : f10 wiw = some (.inl (cy 2, 60, .inl gw)) := k14 _ _ a16 (Ne.symm n_wki_wiw) (Ne.symm n_wmy_wiw)
        refine z_zast nn C hz hS a17 rfl (by omega) (by omega) (by rcases hw with rfl | rfl <;> rfl) dX8_shelf_52 (fun H locs f18 a19 k20 hz hS => ?_)
        refine lv_aload_n hx hb dX8_shelf_53 rfl (lv_at hl 0 rfl) ?_
        refine lv_iload_n hx hb dX8_shelf_54 rfl (lv_at hl 2 rfl) ?_
        refine lv_i2l (v := x.toInt64) hx hb dX8_shelf_55 rfl ?_
        have a21 : f18 o = some (.inr (8, [.int 0, .int (-1), .int 0, .ref wev, .int (nI nl), .ref wnb, .int (nI nn), .ref wki, .ref wmy, .ref wce, .ref wiw, .ref wli, .ref wha, .ref wwt, .int (nI nf), .ref wfy, .ref wfk, .int (nI nc), .ref wem, .ref wna, .ref wpl, .ref whs, .long lk, .int (nI ks), .ref wk1, .ref wk2, .ref wk3])) := (k20 _ (z_ne a15 a17 rfl)).trans a15
        have a22 : f1 wce = some (.inl (cy 1, 960, .inr (.inl gc))) := k4 _ _ x_wce (z_ne x_wce x_o rfl)
        have a23 : f10 wce = some (.inl (cy 1, 960, .inr (.inl gc))) := k14 _ _ a22 (z_ne a22 a8 rfl) (z_ne a22 a9 rfl)
        have a24 : f18 wce = some (.inl (cy 1, 960, .inr (.inl gc))) := (k20 _ (z_ne a23 a17 rfl)).trans a23
        have a25 : f18 wmy = some (.inl (cy 0, 60, .inl (upd gm nn 0))) := (k20 _ n_wmy_wiw).trans a13
        refine z_callVv (As := [.long x.toInt64]) C hz hS hA hl (k_X8_part l D cy f18 o wev wnb wki wmy wce wiw wli wha wwt wfy wfk wem wna wpl whs wk1 wk2 wk3 0 (-1) 0 nl nn nf nc lk ks gc (upd gm nn 0) x.toInt64 0 a21 a24 a25 (by omega) pk_us (by omega)) zyX8_part mMX8_127 a21 zl8 rfl rfl (Nat.le_of_ble_eq_true rfl) ⟨Nat.le_of_ble_eq_true rfl, Nat.le_of_ble_eq_true rfl⟩ ⟨Nat.le_of_ble_eq_true rfl, Nat.le_of_ble_eq_true rfl⟩ dX8_shelf_56 (fun  f26 H locs h27 hz hS => ?_)
        obtain ⟨a28, a29, k30⟩ := h27
        refine lv_iconst (v := 0) hx hb dX8_shelf_59 (by decide) ?_
        refine lv_istore_n (lv' := [(3, .int 0), (0, .ref o), (1, .int w), (2, .int x)]) hx hb dX8_shelf_60 rfl hl (by decide) rfl (fun ls hl => ?_)
        have lp31 : ∀ (n : Nat) (i : Nat) (gcv : Nat → Int64) (gmv : Nat → Int32) (fL32 : zM) (H : Heap) (locs : List Loc) (ls : Array Slot), (t - i) < n → (i ≤ t) → (gmv nn = nI (1 + i)) → (∀ i9, i9 < nn → gmv i9 = gm i9) → (∀ i9, i9 < nn → ∀ j9, j9 < 16 → gcv (16 * i9 + j9) = gc (16 * i9 + j9)) → (∀ j, j < 1 + i → gcv (16 * nn + j) = qshelf x j) → fL32 wce = some (.inl (cy 1, 960, .inr (.inl gcv))) → fL32 wmy = some (.inl (cy 0, 60, .inl gmv)) → (∀ (b : Nat) (e : va_E), f26 b = some e → b ≠ wce → b ≠ wmy → fL32 b = some e) → zH D (zA f s.heap.size) fL32 H → va_S (zA f s.heap.size) s.heap H locs → lv_has ls 4 [(0, .ref o), (2, .int x), (3, .int (nI i))] → W p l e rmX8_shelf s m ([.ref o, .int w, .int x] : List Value).toArray below meth c H locs 0 0 (MQ below (va_Qi (fun (r : Int32) (f1 : zM) => ∃ (u11 : Int32) (u21 : Int32) (u31 : Int32) (nl1 : Nat) (nn1 : Nat) (nf1 : Nat) (nc1 : Nat) (lk1 : Int64) (ks1 : Nat) (gv1 : Nat → Int32) (gu1 : Nat → Int32) (gk1 : Nat → Int32) (gm1 : Nat → Int32) (gc1 : Nat → Int64) (gw1 : Nat → Int32) (gl1 : Nat → Int32) (gh1 : Nat → Int32) (gt1 : Nat → Int64) (gy1 : Nat → Int32) (gq1 : Nat → Int32) (ge11 : Nat → Int32) (gn11 : Nat → Int32) (gp11 : Nat → Int32) (gs1 : Nat → Int32) (gx11 : Nat → Int32) (gx21 : Nat → Int32) (gx31 : Nat → Int32) (ln1 : Nat → Nat) (fz1 : Nat → Nat) (sq1 : Nat → Nat), r = ((q_shelf nn x).1) ∧ (u11 = (q_shelf nn x).2.1) ∧ (u21 = (q_shelf nn x).2.2.1) ∧ (u31 = (q_shelf nn x).2.2.2) ∧ (gv1 = zEV gv (q_shelf nn x).2.1) ∧ (nl1 = nl) ∧ (gu1 = gu) ∧ (nn1 = if 0 ≤ r then nn + 1 else nn) ∧ (gk1 = if 0 ≤ r then va_up gk nn 6 else gk) ∧ (ln1 = if 0 ≤ r then va_up ln nn (1 + fI x) else ln) ∧ (gw1 = if 0 ≤ r then va_up gw nn w else gw) ∧ (gh1 = if 0 ≤ r then va_up gh nn (zHash 6 nn (1 + fI x) (qshelf x) gh) else gh) ∧ (zGC nn (0 ≤ r) (1 + fI x) (qshelf x) gc gc1) ∧ (nf1 = nf) ∧ (fz1 = fz) ∧ (gq1 = gq) ∧ (nc1 = nc) ∧ (ge11 = ge1) ∧ (gn11 = gn1) ∧ (gp11 = gp1) ∧ (sq1 = sq) ∧ (ks1 = ks) ∧ (gx11 = gx1) ∧ (gx21 = gx2) ∧ (gx31 = gx3) ∧ (lk1 = lk) ∧ zIM cy f1 o wev wnb wki wmy wce wiw wli wha wwt wfy wfk wem wna wpl whs wk1 wk2 wk3 u11 u21 u31 nl1 nn1 nf1 nc1 lk1 ks1 gv1 gu1 gk1 gm1 gc1 gw1 gl1 gh1 gt1 gy1 gq1 ge11 gn11 gp11 gs1 gx11 gx21 gx31 ln1 fz1 sq1) (zB D f s.heap.size) (zA f s.heap.size)) ([.ref o, .int w, .int x] : List Value).toArray s rmX8_shelf.cells rmX8_shelf.slots (zA f s.heap.size)) (F0 m 61 ls []) := by
          intro n
          induction n with
          | zero => intro i gcv gmv fL32 H locs ls hmz; exact absurd hmz (Nat.not_lt_zero _)
          | succ n ih =>
            intro i gcv gmv fL32 H locs ls hmz hi hgm hgk9 hgc9 hgr a34 a35 k33 hz hS hl
            refine lv_iload_n hx hb dX8_shelf_61 rfl (lv_at hl 2 rfl) ?_
            refine lv_iload_n hx hb dX8_shelf_62 rfl (lv_at hl 1 rfl) ?_
            refine lv_icmp_ge (tgt := 79) hx hb dX8_shelf_63 (by decide) (fun c36 => ?_) (fun c36 => ?_)
            · replace c36 : t ≤ i := by rw [hxt] at c36; exact (nI_leI (by omega) (by omega)).mp c36
              refine lv_aload_n hx hb dX8_shelf_79 rfl (lv_at hl 0 rfl) ?_
              have a37 : f26 o = some (.inr (8, [.int 0, .int (-1), .int 0, .ref wev, .int (nI nl), .ref wnb, .int (nI nn), .ref wki, .ref wmy, .ref wce, .ref wiw, .ref wli, .ref wha, .ref wwt, .int (nI nf), .ref wfy, .ref wfk, .int (nI nc), .ref wem, .ref wna, .ref wpl, .ref whs, .long lk, .int (nI ks), .ref wk1, .ref wk2, .ref wk3])) := k30 _ _ a21 (z_ne a21 a24 rfl) (z_ne a21 a25 rfl)
              have a38 : fL32 o = some (.inr (8, [.int 0, .int (-1), .int 0, .ref wev, .int (nI nl), .ref wnb, .int (nI nn), .ref wki, .ref wmy, .ref wce, .ref wiw, .ref wli, .ref wha, .ref wwt, .int (nI nf), .ref wfy, .ref wfk, .int (nI nc), .ref wem, .ref wna, .ref wpl, .ref whs, .long lk, .int (nI ks), .ref wk1, .ref wk2, .ref wk3])) := k33 _ _ a37 (z_ne a37 a28 rfl) (z_ne a37 a29 rfl)
              have a39 : f18 wki = some (.inl (cy 0, 60, .inl (upd gk nn 6))) := (k20 _ n_wki_wiw).trans a12
              have a40 : f26 wki = some (.inl (cy 0, 60, .inl (upd gk nn 6))) := k30 _ _ a39 (z_ne a39 a24 rfl) n_wki_wmy
              have a41 : fL32 wki = some (.inl (cy 0, 60, .inl (upd gk nn 6))) := k33 _ _ a40 (z_ne a40 a28 rfl) n_wki_wmy
              have a42 : f1 wli = some (.inl (cy 0, 60, .inl gl)) := k4 _ _ x_wli (z_ne x_wli x_o rfl)
              have a43 : f10 wli = some (.inl (cy 0, 60, .inl gl)) := k14 _ _ a42 (Ne.symm n_wki_wli) (Ne.symm n_wmy_wli)
              have a44 : f18 wli = some (.inl (cy 0, 60, .inl gl)) := (k20 _ (Ne.symm n_wiw_wli)).trans a43
              have a45 : f26 wli = some (.inl (cy 0, 60, .inl gl)) := k30 _ _ a44 (z_ne a44 a24 rfl) (Ne.symm n_wmy_wli)
              have a46 : fL32 wli = some (.inl (cy 0, 60, .inl gl)) := k33 _ _ a45 (z_ne a45 a28 rfl) (Ne.symm n_wmy_wli)
              have a47 : f1 wha = some (.inl (cy 0, 60, .inl gh)) := k4 _ _ x_wha (z_ne x_wha x_o rfl)
              have a48 : f10 wha = some (.inl (cy 0, 60, .inl gh)) := k14 _ _ a47 (Ne.symm n_wki_wha) (Ne.symm n_wmy_wha)
              have a49 : f18 wha = some (.inl (cy 0, 60, .inl gh)) := (k20 _ (Ne.symm n_wiw_wha)).trans a48
              have a50 : f26 wha = some (.inl (cy 0, 60, .inl gh)) := k30 _ _ a49 (z_ne a49 a24 rfl) (Ne.symm n_wmy_wha)
              have a51 : fL32 wha = some (.inl (cy 0, 60, .inl gh)) := k33 _ _ a50 (z_ne a50 a28 rfl) (Ne.symm n_wmy_wha)
              refine z_callVi (As := []) C hz hS hA hl (k_X8_made l D cy fL32 o wev wnb wki wmy wce wiw wli wha wwt wfy wfk wem wna wpl whs wk1 wk2 wk3 0 (-1) 0 nl nn nf nc lk ks (upd gk nn 6) gmv gcv gl gh ln (1 + i) a38 a41 a35 a34 a46 a51 (by omega) (zMP_keep hMP (fun i9 h9 => by simp only [upd, if_neg (show ¬ i9 = nn by omega)]) hgk9 hgc9) hgm (by omega) (by rw [pk_us]; exact fun h9 => absurd h9 (by decide)) n_wki_wmy n_wki_wli n_wki_wha n_wmy_wli n_wmy_wha n_wli_wha) zyX8_made mMX8_131 a38 zl8 rfl rfl (Nat.le_of_ble_eq_true rfl) ⟨Nat.le_of_ble_eq_true rfl, Nat.le_of_ble_eq_true rfl⟩ ⟨Nat.le_of_ble_eq_true rfl, Nat.le_of_ble_eq_true rfl⟩ dX8_shelf_80 (fun r f52 H locs h53 hz hS => ?_)
              obtain ⟨gl_54, rfl, a55, a56, a57, k58⟩ := h53
              have a59 : f1 wev = some (.inl (cy 0, 8, .inl gv)) := k4 _ _ x_wev (z_ne x_wev x_o rfl)
              have a60 : f10 wev = some (.inl (cy 0, 8, .inl gv)) := k14 _ _ a59 (z_ne a59 a8 rfl) (z_ne a59 a9 rfl)
              have a61 : f18 wev = some (.inl (cy 0, 8, .inl gv)) := (k20 _ (z_ne a60 a17 rfl)).trans a60
              have a62 : f26 wev = some (.inl (cy 0, 8, .inl gv)) := k30 _ _ a61 (z_ne a61 a24 rfl) (z_ne a61 a25 rfl)
              have a63 : fL32 wev = some (.inl (cy 0, 8, .inl gv)) := k33 _ _ a62 (z_ne a62 a28 rfl) (z_ne a62 a29 rfl)
              have a64 : f52 wev = some (.inl (cy 0, 8, .inl gv)) := k58 _ _ a63 (z_ne a63 a38 rfl) (z_ne a63 a46 rfl) (z_ne a63 a51 rfl)
              have a65 : f1 wnb = some (.inl (cy 0, 12, .inl gu)) := k4 _ _ x_wnb (z_ne x_wnb x_o rfl)
              have a66 : f10 wnb = some (.inl (cy 0, 12, .inl gu)) := k14 _ _ a65 (z_ne a65 a8 rfl) (z_ne a65 a9 rfl)
              have a67 : f18 wnb = some (.inl (cy 0, 12, .inl gu)) := (k20 _ (z_ne a66 a17 rfl)).trans a66
              have a68 : f26 wnb = some (.inl (cy 0, 12, .inl gu)) := k30 _ _ a67 (z_ne a67 a24 rfl) (z_ne a67 a25 rfl)
              have a69 : fL32 wnb = some (.inl (cy 0, 12, .inl gu)) := k33 _ _ a68 (z_ne a68 a28 rfl) (z_ne a68 a29 rfl)
              have a70 : f52 wnb = some (.inl (cy 0, 12, .inl gu)) := k58 _ _ a69 (z_ne a69 a38 rfl) (z_ne a69 a46 rfl) (z_ne a69 a51 rfl)
              have a71 : f52 wki = some (.inl (cy 0, 60, .inl (upd gk nn 6))) := k58 _ _ a41 (z_ne a41 a38 rfl) n_wki_wli n_wki_wha
              have a72 : f52 wmy = some (.inl (cy 0, 60, .inl gmv)) := k58 _ _ a35 (z_ne a35 a38 rfl) n_wmy_wli n_wmy_wha
              have a73 : f52 wce = some (.inl (cy 1, 960, .inr (.inl gcv))) := k58 _ _ a34 (z_ne a34 a38 rfl) (z_ne a34 a46 rfl) (z_ne a34 a51 rfl)
              have a74 : f26 wiw = some (.inl (cy 2, 60, .inl (upd gw nn w))) := k30 _ _ a19 (z_ne a19 a24 rfl) (Ne.symm n_wmy_wiw)
              have a75 : fL32 wiw = some (.inl (cy 2, 60, .inl (upd gw nn w))) := k33 _ _ a74 (z_ne a74 a28 rfl) (Ne.symm n_wmy_wiw)
              have a76 : f52 wiw = some (.inl (cy 2, 60, .inl (upd gw nn w))) := k58 _ _ a75 (z_ne a75 a38 rfl) n_wiw_wli n_wiw_wha
              have a77 : f1 wwt = some (.inl (cy 1, 60, .inr (.inl gt))) := k4 _ _ x_wwt (z_ne x_wwt x_o rfl)
              have a78 : f10 wwt = some (.inl (cy 1, 60, .inr (.inl gt))) := k14 _ _ a77 (z_ne a77 a8 rfl) (z_ne a77 a9 rfl)
              have a79 : f18 wwt = some (.inl (cy 1, 60, .inr (.inl gt))) := (k20 _ (z_ne a78 a17 rfl)).trans a78
              have a80 : f26 wwt = some (.inl (cy 1, 60, .inr (.inl gt))) := k30 _ _ a79 (z_ne a79 a24 rfl) (z_ne a79 a25 rfl)
              have a81 : fL32 wwt = some (.inl (cy 1, 60, .inr (.inl gt))) := k33 _ _ a80 (z_ne a80 a28 rfl) (z_ne a80 a29 rfl)
              have a82 : f52 wwt = some (.inl (cy 1, 60, .inr (.inl gt))) := k58 _ _ a81 (z_ne a81 a38 rfl) (z_ne a81 a46 rfl) (z_ne a81 a51 rfl)
              have a83 : f1 wfy = some (.inl (cy 0, 6, .inl gy)) := k4 _ _ x_wfy (z_ne x_wfy x_o rfl)
              have a84 : f10 wfy = some (.inl (cy 0, 6, .inl gy)) := k14 _ _ a83 (z_ne a83 a8 rfl) (z_ne a83 a9 rfl)
              have a85 : f18 wfy = some (.inl (cy 0, 6, .inl gy)) := (k20 _ (z_ne a84 a17 rfl)).trans a84
              have a86 : f26 wfy = some (.inl (cy 0, 6, .inl gy)) := k30 _ _ a85 (z_ne a85 a24 rfl) (z_ne a85 a25 rfl)
              have a87 : fL32 wfy = some (.inl (cy 0, 6, .inl gy)) := k33 _ _ a86 (z_ne a86 a28 rfl) (z_ne a86 a29 rfl)
              have a88 : f52 wfy = some (.inl (cy 0, 6, .inl gy)) := k58 _ _ a87 (z_ne a87 a38 rfl) (z_ne a87 a46 rfl) (z_ne a87 a51 rfl)
              have a89 : f1 wfk = some (.inl (cy 0, 24, .inl gq)) := k4 _ _ x_wfk (z_ne x_wfk x_o rfl)
              have a90 : f10 wfk = some (.inl (cy 0, 24, .inl gq)) := k14 _ _ a89 (z_ne a89 a8 rfl) (z_ne a89 a9 rfl)
              have a91 : f18 wfk = some (.inl (cy 0, 24, .inl gq)) := (k20 _ (z_ne a90 a17 rfl)).trans a90
              have a92 : f26 wfk = some (.inl (cy 0, 24, .inl gq)) := k30 _ _ a91 (z_ne a91 a24 rfl) (z_ne a91 a25 rfl)
              have a93 : fL32 wfk = some (.inl (cy 0, 24, .inl gq)) := k33 _ _ a92 (z_ne a92 a28 rfl) (z_ne a92 a29 rfl)
              have a94 : f52 wfk = some (.inl (cy 0, 24, .inl gq)) := k58 _ _ a93 (z_ne a93 a38 rfl) (z_ne a93 a46 rfl) (z_ne a93 a51 rfl)
              have a95 : f1 wem = some (.inl (cy 0, 60, .inl ge1)) := k4 _ _ x_wem (z_ne x_wem x_o rfl)
              have a96 : f10 wem = some (.inl (cy 0, 60, .inl ge1)) := k14 _ _ a95 (Ne.symm n_wki_wem) (Ne.symm n_wmy_wem)
              have a97 : f18 wem = some (.inl (cy 0, 60, .inl ge1)) := (k20 _ (Ne.symm n_wiw_wem)).trans a96
              have a98 : f26 wem = some (.inl (cy 0, 60, .inl ge1)) := k30 _ _ a97 (z_ne a97 a24 rfl) (Ne.symm n_wmy_wem)
              have a99 : fL32 wem = some (.inl (cy 0, 60, .inl ge1)) := k33 _ _ a98 (z_ne a98 a28 rfl) (Ne.symm n_wmy_wem)
              have a100 : f52 wem = some (.inl (cy 0, 60, .inl ge1)) := k58 _ _ a99 (z_ne a99 a38 rfl) (Ne.symm n_wli_wem) (Ne.symm n_wha_wem)
              have a101 : f1 wna = some (.inl (cy 0, 60, .inl gn1)) := k4 _ _ x_wna (z_ne x_wna x_o rfl)
              have a102 : f10 wna = some (.inl (cy 0, 60, .inl gn1)) := k14 _ _ a101 (Ne.symm n_wki_wna) (Ne.symm n_wmy_wna)
              have a103 : f18 wna = some (.inl (cy 0, 60, .inl gn1)) := (k20 _ (Ne.symm n_wiw_wna)).trans a102
              have a104 : f26 wna = some (.inl (cy 0, 60, .inl gn1)) := k30 _ _ a103 (z_ne a103 a24 rfl) (Ne.symm n_wmy_wna)
              have a105 : fL32 wna = some (.inl (cy 0, 60, .inl gn1)) := k33 _ _ a104 (z_ne a104 a28 rfl) (Ne.symm n_wmy_wna)
              have a106 : f52 wna = some (.inl (cy 0, 60, .inl gn1)) := k58 _ _ a105 (z_ne a105 a38 rfl) (Ne.symm n_wli_wna) (Ne.symm n_wha_wna)
              have a107 : f1 wpl = some (.inl (cy 0, 60, .inl gp1)) := k4 _ _ x_wpl (z_ne x_wpl x_o rfl)
              have a108 : f10 wpl = some (.inl (cy 0, 60, .inl gp1)) := k14 _ _ a107 (Ne.symm n_wki_wpl) (Ne.symm n_wmy_wpl)
              have a109 : f18 wpl = some (.inl (cy 0, 60, .inl gp1)) := (k20 _ (Ne.symm n_wiw_wpl)).trans a108
              have a110 : f26 wpl = some (.inl (cy 0, 60, .inl gp1)) := k30 _ _ a109 (z_ne a109 a24 rfl) (Ne.symm n_wmy_wpl)
              have a111 : fL32 wpl = some (.inl (cy 0, 60, .inl gp1)) := k33 _ _ a110 (z_ne a110 a28 rfl) (Ne.symm n_wmy_wpl)
              have a112 : f52 wpl = some (.inl (cy 0, 60, .inl gp1)) := k58 _ _ a111 (z_ne a111 a38 rfl) (Ne.symm n_wli_wpl) (Ne.symm n_wha_wpl)
              have a113 : f1 whs = some (.inl (cy 0, 4, .inl gs)) := k4 _ _ x_whs (z_ne x_whs x_o rfl)
              have a114 : f10 whs = some (.inl (cy 0, 4, .inl gs)) := k14 _ _ a113 (z_ne a113 a8 rfl) (z_ne a113 a9 rfl)
              have a115 : f18 whs = some (.inl (cy 0, 4, .inl gs)) := (k20 _ (z_ne a114 a17 rfl)).trans a114
              have a116 : f26 whs = some (.inl (cy 0, 4, .inl gs)) := k30 _ _ a115 (z_ne a115 a24 rfl) (z_ne a115 a25 rfl)
              have a117 : fL32 whs = some (.inl (cy 0, 4, .inl gs)) := k33 _ _ a116 (z_ne a116 a28 rfl) (z_ne a116 a29 rfl)
              have a118 : f52 whs = some (.inl (cy 0, 4, .inl gs)) := k58 _ _ a117 (z_ne a117 a38 rfl) (z_ne a117 a46 rfl) (z_ne a117 a51 rfl)
              have a119 : f1 wk1 = some (.inl (cy 0, 40, .inl gx1)) := k4 _ _ x_wk1 (z_ne x_wk1 x_o rfl)
              have a120 : f10 wk1 = some (.inl (cy 0, 40, .inl gx1)) := k14 _ _ a119 (z_ne a119 a8 rfl) (z_ne a119 a9 rfl)
              have a121 : f18 wk1 = some (.inl (cy 0, 40, .inl gx1)) := (k20 _ (z_ne a120 a17 rfl)).trans a120
              have a122 : f26 wk1 = some (.inl (cy 0, 40, .inl gx1)) := k30 _ _ a121 (z_ne a121 a24 rfl) (z_ne a121 a25 rfl)
              have a123 : fL32 wk1 = some (.inl (cy 0, 40, .inl gx1)) := k33 _ _ a122 (z_ne a122 a28 rfl) (z_ne a122 a29 rfl)
              have a124 : f52 wk1 = some (.inl (cy 0, 40, .inl gx1)) := k58 _ _ a123 (z_ne a123 a38 rfl) (z_ne a123 a46 rfl) (z_ne a123 a51 rfl)
              have a125 : f1 wk2 = some (.inl (cy 0, 40, .inl gx2)) := k4 _ _ x_wk2 (z_ne x_wk2 x_o rfl)
              have a126 : f10 wk2 = some (.inl (cy 0, 40, .inl gx2)) := k14 _ _ a125 (z_ne a125 a8 rfl) (z_ne a125 a9 rfl)
              have a127 : f18 wk2 = some (.inl (cy 0, 40, .inl gx2)) := (k20 _ (z_ne a126 a17 rfl)).trans a126
              have a128 : f26 wk2 = some (.inl (cy 0, 40, .inl gx2)) := k30 _ _ a127 (z_ne a127 a24 rfl) (z_ne a127 a25 rfl)
              have a129 : fL32 wk2 = some (.inl (cy 0, 40, .inl gx2)) := k33 _ _ a128 (z_ne a128 a28 rfl) (z_ne a128 a29 rfl)
              have a130 : f52 wk2 = some (.inl (cy 0, 40, .inl gx2)) := k58 _ _ a129 (z_ne a129 a38 rfl) (z_ne a129 a46 rfl) (z_ne a129 a51 rfl)
              have a131 : f1 wk3 = some (.inl (cy 0, 40, .inl gx3)) := k4 _ _ x_wk3 (z_ne x_wk3 x_o rfl)
              have a132 : f10 wk3 = some (.inl (cy 0, 40, .inl gx3)) := k14 _ _ a131 (z_ne a131 a8 rfl) (z_ne a131 a9 rfl)
              have a133 : f18 wk3 = some (.inl (cy 0, 40, .inl gx3)) := (k20 _ (z_ne a132 a17 rfl)).trans a132
              have a134 : f26 wk3 = some (.inl (cy 0, 40, .inl gx3)) := k30 _ _ a133 (z_ne a133 a24 rfl) (z_ne a133 a25 rfl)
              have a135 : fL32 wk3 = some (.inl (cy 0, 40, .inl gx3)) := k33 _ _ a134 (z_ne a134 a28 rfl) (z_ne a134 a29 rfl)
              have a136 : f52 wk3 = some (.inl (cy 0, 40, .inl gx3)) := k58 _ _ a135 (z_ne a135 a38 rfl) (z_ne a135 a46 rfl) (z_ne a135 a51 rfl)
              have hgpf : ∀ j, j < 1 + fI x → gcv (16 * nn + j) = (qshelf x) j := (by obtain rfl : i = t := (by omega); rw [hIx]; exact hgr)
              have hgkp : ∀ i, i < nn → ∀ j, j < 16 → gcv (16 * i + j) = gc (16 * i + j) := hgc9
              have hq : q_shelf nn x = (nI nn, 0, (-1), 0) := by simp [q_shelf, h60, c5, c7, c36]
              exact z_iret C hr rfl hz hS ⟨0, (-1), 0, nl, (nn + 1), nf, nc, lk, ks, gv, gu, (upd gk nn 6), gmv, gcv, (upd gw nn w), gl_54, (upd gh nn (zHash ((upd gk nn 6) nn) nn (1 + i) (fun k => gcv (16 * nn + k)) gh)), gt, gy, gq, ge1, gn1, gp1, gs, gx1, gx2, gx3, (va_up ln nn (1 + i)), fz, sq, (by rw [hq]), (by rw [hq]), (by rw [hq]), (by rw [hq]), (by rw [hq]; exact (zEV0 gv).symm), rfl, rfl, (by rw [if_pos (nI_pos' (by omega))]), (by rw [if_pos (nI_pos' (by omega))]; exact z_uv _ _ _), (by rw [if_pos (nI_pos' (by omega)), hIx, show t = i by omega]), (by rw [if_pos (nI_pos' (by omega))]; exact z_uv _ _ _), (by rw [if_pos (nI_pos' (by omega))]; exact z_hs1 pk_us (by rw [hIx, show t = i by omega]) hgpf), ⟨hgkp, fun _ => hgpf⟩, rfl, rfl, rfl, rfl, rfl, rfl, rfl, rfl, rfl, rfl, rfl, rfl, rfl, ⟨a55, a64, a70, a71, a72, a73, a76, a56, a57, a82, a88, a94, a100, a106, a112, a118, a124, a130, a136, (by omega), hl12, hf6, hc60, hs40, (zMP_new (zMP_keep hMP (fun i9 h9 => by simp only [upd, if_neg (show ¬ i9 = nn by omega)]) hgk9 hgc9) hgm (by rw [pk_us]; exact zMP1_of (by omega) (by decide) (by decide) (by decide))), hgy, hfz, hgs, hME, hlk, (fun i9 h9 => by rw [pk_un (by omega)]; exact hgw i9 (by omega)), hfd, n_wki_wmy, n_wki_wiw, n_wki_wli, n_wki_wha, n_wki_wem, n_wki_wna, n_wki_wpl, n_wmy_wiw, n_wmy_wli, n_wmy_wha, n_wmy_wem, n_wmy_wna, n_wmy_wpl, n_wiw_wli, n_wiw_wha, n_wiw_wem, n_wiw_wna, n_wiw_wpl, n_wli_wha, n_wli_wem, n_wli_wna, n_wli_wpl, n_wha_wem, n_wha_wna, n_wha_wpl, n_wem_wna, n_wem_wpl, n_wna_wpl, n_wk1_wk2, n_wk1_wk3, n_wk2_wk3⟩⟩ (Nat.le_of_ble_eq_true rfl) (Nat.le_of_ble_eq_true rfl) dX8_shelf_83
            · replace c36 : i < t := by rw [hxt] at c36; exact Nat.not_le.mp (fun h => c36 ((nI_leI (by omega) (by omega)).mpr h))
              refine lv_aload_n hx hb dX8_shelf_66 rfl (lv_at hl 0 rfl) ?_
              refine lv_ldc2 (v := (-1)) hx hb C.2.2.2.1 (C.2.2.2.2.1 _ mKX8_98) dX8_shelf_67 ?_
              have a137 : f26 o = some (.inr (8, [.int 0, .int (-1), .int 0, .ref wev, .int (nI nl), .ref wnb, .int (nI nn), .ref wki, .ref wmy, .ref wce, .ref wiw, .ref wli, .ref wha, .ref wwt, .int (nI nf), .ref wfy, .ref wfk, .int (nI nc), .ref wem, .ref wna, .ref wpl, .ref whs, .long lk, .int (nI ks), .ref wk1, .ref wk2, .ref wk3])) := k30 _ _ a21 (z_ne a21 a24 rfl) (z_ne a21 a25 rfl)
              have a138 : fL32 o = some (.inr (8, [.int 0, .int (-1), .int 0, .ref wev, .int (nI nl), .ref wnb, .int (nI nn), .ref wki, .ref wmy, .ref wce, .ref wiw, .ref wli, .ref wha, .ref wwt, .int (nI nf), .ref wfy, .ref wfk, .int (nI nc), .ref wem, .ref wna, .ref wpl, .ref whs, .long lk, .int (nI ks), .ref wk1, .ref wk2, .ref wk3])) := k33 _ _ a137 (z_ne a137 a28 rfl) (z_ne a137 a29 rfl)
              refine z_callVv (As := [.long (-1)]) C hz hS hA hl (k_X8_part l D cy fL32 o wev wnb wki wmy wce wiw wli wha wwt wfy wfk wem wna wpl whs wk1 wk2 wk3 0 (-1) 0 nl nn nf nc lk ks gcv gmv (-1) (1 + i) a138 a34 a35 (by omega) hgm (by omega)) zyX8_part mMX8_127 a138 zl8 rfl rfl (Nat.le_of_ble_eq_true rfl) ⟨Nat.le_of_ble_eq_true rfl, Nat.le_of_ble_eq_true rfl⟩ ⟨Nat.le_of_ble_eq_true rfl, Nat.le_of_ble_eq_true rfl⟩ dX8_shelf_70 (fun  f139 H locs h140 hz hS => ?_)
              obtain ⟨a141, a142, k143⟩ := h140
              refine lv_iinc (v := nI (i + 1)) (lv' := [(3, .int (nI (i + 1))), (0, .ref o), (2, .int x)]) hx hb dX8_shelf_73 hl (k := 2) rfl (nI_1 i) (by decide) rfl (fun ls hl => ?_)
              refine lv_goto (tgt := 61) hx hb dX8_shelf_76 (by decide) ?_
              exact ih (i + 1) (vp_updL gcv (16 * nn + (1 + i)) (-1)) (upd gmv nn (nI ((1 + i) + 1))) _ _ _ _ (by omega) (by omega) pk_us (fun i9 h9 => by rw [pk_un (show i9 ≠ nn by omega)]; exact hgk9 i9 h9) (fun i9 h9 j9 h8 => by rw [pk_uLn (show 16 * i9 + j9 ≠ 16 * nn + (1 + i) by omega)]; exact hgc9 i9 h9 j9 h8) (zshelfM_1 hgr) a141 a142 (by
                    intro b e hb n0 n1
                    have hb4 : fL32 b = some e := k33 b e hb n0 n1
                    have hb5 : f139 b = some e := k143 b e hb4 n0 n1
                    exact hb5) hz hS (lv_sub hl [1, 2, 0] rfl)
        exact lp31 (t - 0 + 1) 0 (vp_updL gc (16 * nn + 0) x.toInt64) (upd (upd gm nn 0) nn (nI (0 + 1))) _ _ _ _ (Nat.lt_succ_self _) (by omega) pk_us (fun i9 h9 => by simp only [upd, if_neg (show ¬ i9 = nn by omega)]) (fun i9 h9 j9 h8 => by simp (disch := omega) only [pk_uLn]) zshelfM_0 a28 a29 (fun b e hb n0 n1 => hb) hz hS (lv_sub hl [1, 3, 0] rfl)
      · refine lv_aload_n hx hb dX8_shelf_29 rfl (lv_at hl 0 rfl) ?_
        refine lv_iconst (v := 5) hx hb dX8_shelf_30 (by decide) ?_
        refine lv_iconst (v := 0) hx hb dX8_shelf_31 (by decide) ?_
        refine lv_iconst (v := 0) hx hb dX8_shelf_32 (by decide) ?_
        have a144 : f1 wev = some (.inl (cy 0, 8, .inl gv)) := k4 _ _ x_wev (z_ne x_wev x_o rfl)
        refine z_callVi (As := [.int 5, .int 0, .int 0]) C hz hS hA hl (k_X8_fails l D cy f1 o wev wnb wki wmy wce wiw wli wha wwt wfy wfk wem wna wpl whs wk1 wk2 wk3 0 (-1) 0 nl nn nf nc lk ks 5 0 0 gv 5 a3 a144 (by decide) (Nat.le_of_ble_eq_true rfl)) zyX8_fails mMX8_135 a3 zl8 rfl rfl (Nat.le_of_ble_eq_true rfl) ⟨Nat.le_of_ble_eq_true rfl, Nat.le_of_ble_eq_true rfl⟩ ⟨Nat.le_of_ble_eq_true rfl, Nat.le_of_ble_eq_true rfl⟩ dX8_shelf_33 (fun r f145 H locs h146 hz hS => ?_)
        obtain ⟨rfl, a147, a148, k149⟩ := h146
        have a150 : f1 wnb = some (.inl (cy 0, 12, .inl gu)) := k4 _ _ x_wnb (z_ne x_wnb x_o rfl)
        have a151 : f145 wnb = some (.inl (cy 0, 12, .inl gu)) := k149 _ _ a150 (z_ne a150 a3 rfl) (z_ne a150 a144 rfl)
        have a152 : f1 wki = some (.inl (cy 0, 60, .inl gk)) := k4 _ _ x_wki (z_ne x_wki x_o rfl)
        have a153 : f145 wki = some (.inl (cy 0, 60, .inl gk)) := k149 _ _ a152 (z_ne a152 a3 rfl) (z_ne a152 a144 rfl)
        have a154 : f1 wmy = some (.inl (cy 0, 60, .inl gm)) := k4 _ _ x_wmy (z_ne x_wmy x_o rfl)
        have a155 : f145 wmy = some (.inl (cy 0, 60, .inl gm)) := k149 _ _ a154 (z_ne a154 a3 rfl) (z_ne a154 a144 rfl)
        have a156 : f1 wce = some (.inl (cy 1, 960, .inr (.inl gc))) := k4 _ _ x_wce (z_ne x_wce x_o rfl)
        have a157 : f145 wce = some (.inl (cy 1, 960, .inr (.inl gc))) := k149 _ _ a156 (z_ne a156 a3 rfl) (z_ne a156 a144 rfl)
        have a158 : f1 wiw = some (.inl (cy 2, 60, .inl gw)) := k4 _ _ x_wiw (z_ne x_wiw x_o rfl)
        have a159 : f145 wiw = some (.inl (cy 2, 60, .inl gw)) := k149 _ _ a158 (z_ne a158 a3 rfl) (z_ne a158 a144 rfl)
        have a160 : f1 wli = some (.inl (cy 0, 60, .inl gl)) := k4 _ _ x_wli (z_ne x_wli x_o rfl)
        have a161 : f145 wli = some (.inl (cy 0, 60, .inl gl)) := k149 _ _ a160 (z_ne a160 a3 rfl) (z_ne a160 a144 rfl)
        have a162 : f1 wha = some (.inl (cy 0, 60, .inl gh)) := k4 _ _ x_wha (z_ne x_wha x_o rfl)
        have a163 : f145 wha = some (.inl (cy 0, 60, .inl gh)) := k149 _ _ a162 (z_ne a162 a3 rfl) (z_ne a162 a144 rfl)
        have a164 : f1 wwt = some (.inl (cy 1, 60, .inr (.inl gt))) := k4 _ _ x_wwt (z_ne x_wwt x_o rfl)
        have a165 : f145 wwt = some (.inl (cy 1, 60, .inr (.inl gt))) := k149 _ _ a164 (z_ne a164 a3 rfl) (z_ne a164 a144 rfl)
        have a166 : f1 wfy = some (.inl (cy 0, 6, .inl gy)) := k4 _ _ x_wfy (z_ne x_wfy x_o rfl)
        have a167 : f145 wfy = some (.inl (cy 0, 6, .inl gy)) := k149 _ _ a166 (z_ne a166 a3 rfl) (z_ne a166 a144 rfl)
        have a168 : f1 wfk = some (.inl (cy 0, 24, .inl gq)) := k4 _ _ x_wfk (z_ne x_wfk x_o rfl)
        have a169 : f145 wfk = some (.inl (cy 0, 24, .inl gq)) := k149 _ _ a168 (z_ne a168 a3 rfl) (z_ne a168 a144 rfl)
        have a170 : f1 wem = some (.inl (cy 0, 60, .inl ge1)) := k4 _ _ x_wem (z_ne x_wem x_o rfl)
        have a171 : f145 wem = some (.inl (cy 0, 60, .inl ge1)) := k149 _ _ a170 (z_ne a170 a3 rfl) (z_ne a170 a144 rfl)
        have a172 : f1 wna = some (.inl (cy 0, 60, .inl gn1)) := k4 _ _ x_wna (z_ne x_wna x_o rfl)
        have a173 : f145 wna = some (.inl (cy 0, 60, .inl gn1)) := k149 _ _ a172 (z_ne a172 a3 rfl) (z_ne a172 a144 rfl)
        have a174 : f1 wpl = some (.inl (cy 0, 60, .inl gp1)) := k4 _ _ x_wpl (z_ne x_wpl x_o rfl)
        have a175 : f145 wpl = some (.inl (cy 0, 60, .inl gp1)) := k149 _ _ a174 (z_ne a174 a3 rfl) (z_ne a174 a144 rfl)
        have a176 : f1 whs = some (.inl (cy 0, 4, .inl gs)) := k4 _ _ x_whs (z_ne x_whs x_o rfl)
        have a177 : f145 whs = some (.inl (cy 0, 4, .inl gs)) := k149 _ _ a176 (z_ne a176 a3 rfl) (z_ne a176 a144 rfl)
        have a178 : f1 wk1 = some (.inl (cy 0, 40, .inl gx1)) := k4 _ _ x_wk1 (z_ne x_wk1 x_o rfl)
        have a179 : f145 wk1 = some (.inl (cy 0, 40, .inl gx1)) := k149 _ _ a178 (z_ne a178 a3 rfl) (z_ne a178 a144 rfl)
        have a180 : f1 wk2 = some (.inl (cy 0, 40, .inl gx2)) := k4 _ _ x_wk2 (z_ne x_wk2 x_o rfl)
        have a181 : f145 wk2 = some (.inl (cy 0, 40, .inl gx2)) := k149 _ _ a180 (z_ne a180 a3 rfl) (z_ne a180 a144 rfl)
        have a182 : f1 wk3 = some (.inl (cy 0, 40, .inl gx3)) := k4 _ _ x_wk3 (z_ne x_wk3 x_o rfl)
        have a183 : f145 wk3 = some (.inl (cy 0, 40, .inl gx3)) := k149 _ _ a182 (z_ne a182 a3 rfl) (z_ne a182 a144 rfl)
        have hq : q_shelf nn x = ((-4), 5, 0, 0) := by simp [q_shelf, h60, c5, c7]
        exact z_iret C hr rfl hz hS ⟨5, 0, 0, nl, nn, nf, nc, lk, ks, (upd gv 5 (gv 5 + 1)), gu, gk, gm, gc, gw, gl, gh, gt, gy, gq, ge1, gn1, gp1, gs, gx1, gx2, gx3, ln, fz, sq, (by rw [hq]), (by rw [hq]), (by rw [hq]), (by rw [hq]), (by rw [hq]; exact (zEV5 gv).symm), rfl, rfl, (by rw [if_neg (by decide)]), (by rw [if_neg (by decide)]), (by rw [if_neg (by decide)]), (by rw [if_neg (by decide)]), (by rw [if_neg (by decide)]), (zGC_no (by decide)), rfl, rfl, rfl, rfl, rfl, rfl, rfl, rfl, rfl, rfl, rfl, rfl, rfl, ⟨a147, a148, a151, a153, a155, a157, a159, a161, a163, a165, a167, a169, a171, a173, a175, a177, a179, a181, a183, hn60, hl12, hf6, hc60, hs40, hMP, hgy, hfz, hgs, hME, hlk, hgw, hfd, n_wki_wmy, n_wki_wiw, n_wki_wli, n_wki_wha, n_wki_wem, n_wki_wna, n_wki_wpl, n_wmy_wiw, n_wmy_wli, n_wmy_wha, n_wmy_wem, n_wmy_wna, n_wmy_wpl, n_wiw_wli, n_wiw_wha, n_wiw_wem, n_wiw_wna, n_wiw_wpl, n_wli_wha, n_wli_wem, n_wli_wna, n_wli_wpl, n_wha_wem, n_wha_wna, n_wha_wpl, n_wem_wna, n_wem_wpl, n_wna_wpl, n_wk1_wk2, n_wk1_wk3, n_wk2_wk3⟩⟩ (Nat.le_of_ble_eq_true rfl) (Nat.le_of_ble_eq_true rfl) dX8_shelf_36
    · replace c6 : (nn = 60) := (nI_eq (a := nn) (b := 60) (by omega) (by omega)).mp c6
      have h60 : ¬ nn < 60 := by omega
      refine lv_bipush (v := (-3)) hx hb dX8_shelf_22 (by decide) ?_
      have a184 : f1 wev = some (.inl (cy 0, 8, .inl gv)) := k4 _ _ x_wev (z_ne x_wev x_o rfl)
      have a185 : f1 wnb = some (.inl (cy 0, 12, .inl gu)) := k4 _ _ x_wnb (z_ne x_wnb x_o rfl)
      have a186 : f1 wki = some (.inl (cy 0, 60, .inl gk)) := k4 _ _ x_wki (z_ne x_wki x_o rfl)
      have a187 : f1 wmy = some (.inl (cy 0, 60, .inl gm)) := k4 _ _ x_wmy (z_ne x_wmy x_o rfl)
      have a188 : f1 wce = some (.inl (cy 1, 960, .inr (.inl gc))) := k4 _ _ x_wce (z_ne x_wce x_o rfl)
      have a189 : f1 wiw = some (.inl (cy 2, 60, .inl gw)) := k4 _ _ x_wiw (z_ne x_wiw x_o rfl)
      have a190 : f1 wli = some (.inl (cy 0, 60, .inl gl)) := k4 _ _ x_wli (z_ne x_wli x_o rfl)
      have a191 : f1 wha = some (.inl (cy 0, 60, .inl gh)) := k4 _ _ x_wha (z_ne x_wha x_o rfl)
      have a192 : f1 wwt = some (.inl (cy 1, 60, .inr (.inl gt))) := k4 _ _ x_wwt (z_ne x_wwt x_o rfl)
      have a193 : f1 wfy = some (.inl (cy 0, 6, .inl gy)) := k4 _ _ x_wfy (z_ne x_wfy x_o rfl)
      have a194 : f1 wfk = some (.inl (cy 0, 24, .inl gq)) := k4 _ _ x_wfk (z_ne x_wfk x_o rfl)
      have a195 : f1 wem = some (.inl (cy 0, 60, .inl ge1)) := k4 _ _ x_wem (z_ne x_wem x_o rfl)
      have a196 : f1 wna = some (.inl (cy 0, 60, .inl gn1)) := k4 _ _ x_wna (z_ne x_wna x_o rfl)
      have a197 : f1 wpl = some (.inl (cy 0, 60, .inl gp1)) := k4 _ _ x_wpl (z_ne x_wpl x_o rfl)
      have a198 : f1 whs = some (.inl (cy 0, 4, .inl gs)) := k4 _ _ x_whs (z_ne x_whs x_o rfl)
      have a199 : f1 wk1 = some (.inl (cy 0, 40, .inl gx1)) := k4 _ _ x_wk1 (z_ne x_wk1 x_o rfl)
      have a200 : f1 wk2 = some (.inl (cy 0, 40, .inl gx2)) := k4 _ _ x_wk2 (z_ne x_wk2 x_o rfl)
      have a201 : f1 wk3 = some (.inl (cy 0, 40, .inl gx3)) := k4 _ _ x_wk3 (z_ne x_wk3 x_o rfl)
      have hq : q_shelf nn x = ((-3), 0, (-1), 0) := by simp [q_shelf, h60, c5]
      exact z_iret C hr rfl hz hS ⟨0, (-1), 0, nl, nn, nf, nc, lk, ks, gv, gu, gk, gm, gc, gw, gl, gh, gt, gy, gq, ge1, gn1, gp1, gs, gx1, gx2, gx3, ln, fz, sq, (by rw [hq]), (by rw [hq]), (by rw [hq]), (by rw [hq]), (by rw [hq]; exact (zEV0 gv).symm), rfl, rfl, (by rw [if_neg (by decide)]), (by rw [if_neg (by decide)]), (by rw [if_neg (by decide)]), (by rw [if_neg (by decide)]), (by rw [if_neg (by decide)]), (zGC_no (by decide)), rfl, rfl, rfl, rfl, rfl, rfl, rfl, rfl, rfl, rfl, rfl, rfl, rfl, ⟨a3, a184, a185, a186, a187, a188, a189, a190, a191, a192, a193, a194, a195, a196, a197, a198, a199, a200, a201, hn60, hl12, hf6, hc60, hs40, hMP, hgy, hfz, hgs, hME, hlk, hgw, hfd, n_wki_wmy, n_wki_wiw, n_wki_wli, n_wki_wha, n_wki_wem, n_wki_wna, n_wki_wpl, n_wmy_wiw, n_wmy_wli, n_wmy_wha, n_wmy_wem, n_wmy_wna, n_wmy_wpl, n_wiw_wli, n_wiw_wha, n_wiw_wem, n_wiw_wna, n_wiw_wpl, n_wli_wha, n_wli_wem, n_wli_wna, n_wli_wpl, n_wha_wem, n_wha_wna, n_wha_wpl, n_wem_wna, n_wem_wpl, n_wna_wpl, n_wk1_wk2, n_wk1_wk3, n_wk2_wk3⟩⟩ (Nat.le_of_ble_eq_true rfl) (Nat.le_of_ble_eq_true rfl) dX8_shelf_24
  · refine lv_bipush (v := (-2)) hx hb dX8_shelf_10 (by decide) ?_
    have a202 : f1 wev = some (.inl (cy 0, 8, .inl gv)) := k4 _ _ x_wev (z_ne x_wev x_o rfl)
    have a203 : f1 wnb = some (.inl (cy 0, 12, .inl gu)) := k4 _ _ x_wnb (z_ne x_wnb x_o rfl)
    have a204 : f1 wki = some (.inl (cy 0, 60, .inl gk)) := k4 _ _ x_wki (z_ne x_wki x_o rfl)
    have a205 : f1 wmy = some (.inl (cy 0, 60, .inl gm)) := k4 _ _ x_wmy (z_ne x_wmy x_o rfl)
    have a206 : f1 wce = some (.inl (cy 1, 960, .inr (.inl gc))) := k4 _ _ x_wce (z_ne x_wce x_o rfl)
    have a207 : f1 wiw = some (.inl (cy 2, 60, .inl gw)) := k4 _ _ x_wiw (z_ne x_wiw x_o rfl)
    have a208 : f1 wli = some (.inl (cy 0, 60, .inl gl)) := k4 _ _ x_wli (z_ne x_wli x_o rfl)
    have a209 : f1 wha = some (.inl (cy 0, 60, .inl gh)) := k4 _ _ x_wha (z_ne x_wha x_o rfl)
    have a210 : f1 wwt = some (.inl (cy 1, 60, .inr (.inl gt))) := k4 _ _ x_wwt (z_ne x_wwt x_o rfl)
    have a211 : f1 wfy = some (.inl (cy 0, 6, .inl gy)) := k4 _ _ x_wfy (z_ne x_wfy x_o rfl)
    have a212 : f1 wfk = some (.inl (cy 0, 24, .inl gq)) := k4 _ _ x_wfk (z_ne x_wfk x_o rfl)
    have a213 : f1 wem = some (.inl (cy 0, 60, .inl ge1)) := k4 _ _ x_wem (z_ne x_wem x_o rfl)
    have a214 : f1 wna = some (.inl (cy 0, 60, .inl gn1)) := k4 _ _ x_wna (z_ne x_wna x_o rfl)
    have a215 : f1 wpl = some (.inl (cy 0, 60, .inl gp1)) := k4 _ _ x_wpl (z_ne x_wpl x_o rfl)
    have a216 : f1 whs = some (.inl (cy 0, 4, .inl gs)) := k4 _ _ x_whs (z_ne x_whs x_o rfl)
    have a217 : f1 wk1 = some (.inl (cy 0, 40, .inl gx1)) := k4 _ _ x_wk1 (z_ne x_wk1 x_o rfl)
    have a218 : f1 wk2 = some (.inl (cy 0, 40, .inl gx2)) := k4 _ _ x_wk2 (z_ne x_wk2 x_o rfl)
    have a219 : f1 wk3 = some (.inl (cy 0, 40, .inl gx3)) := k4 _ _ x_wk3 (z_ne x_wk3 x_o rfl)
    have hq : q_shelf nn x = ((-2), 0, (-1), 0) := by simp [q_shelf, c5]
    exact z_iret C hr rfl hz hS ⟨0, (-1), 0, nl, nn, nf, nc, lk, ks, gv, gu, gk, gm, gc, gw, gl, gh, gt, gy, gq, ge1, gn1, gp1, gs, gx1, gx2, gx3, ln, fz, sq, (by rw [hq]), (by rw [hq]), (by rw [hq]), (by rw [hq]), (by rw [hq]; exact (zEV0 gv).symm), rfl, rfl, (by rw [if_neg (by decide)]), (by rw [if_neg (by decide)]), (by rw [if_neg (by decide)]), (by rw [if_neg (by decide)]), (by rw [if_neg (by decide)]), (zGC_no (by decide)), rfl, rfl, rfl, rfl, rfl, rfl, rfl, rfl, rfl, rfl, rfl, rfl, rfl, ⟨a3, a202, a203, a204, a205, a206, a207, a208, a209, a210, a211, a212, a213, a214, a215, a216, a217, a218, a219, hn60, hl12, hf6, hc60, hs40, hMP, hgy, hfz, hgs, hME, hlk, hgw, hfd, n_wki_wmy, n_wki_wiw, n_wki_wli, n_wki_wha, n_wki_wem, n_wki_wna, n_wki_wpl, n_wmy_wiw, n_wmy_wli, n_wmy_wha, n_wmy_wem, n_wmy_wna, n_wmy_wpl, n_wiw_wli, n_wiw_wha, n_wiw_wem, n_wiw_wna, n_wiw_wpl, n_wli_wha, n_wli_wem, n_wli_wna, n_wli_wpl, n_wha_wem, n_wha_wna, n_wha_wpl, n_wem_wna, n_wem_wpl, n_wna_wpl, n_wk1_wk2, n_wk1_wk3, n_wk2_wk3⟩⟩ (Nat.le_of_ble_eq_true rfl) (Nat.le_of_ble_eq_true rfl) dX8_shelf_12
