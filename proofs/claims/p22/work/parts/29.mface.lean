theorem z_zast {p : Program} {l : Launch} {e : Env} {R : Room} {s : State} {m : MethodId} {args : Array Value} {below : List Frame} {meth : Method} {c : Code} {H : Heap} {locs : List Loc} {cells slots : Nat} {Q : State → Prop} {cc : ByteArray} {pc nL : Nat} {ls : Array Slot} {rest : List Value} {D : va_G} {cy : Nat → ClassId} {A : Nat → Prop} {f : zM} {a : Nat} {H0 : Heap} {own : String} {n : Nat} {g : Nat → Int32} {i : Int32} {x : Int32} (j : Nat) (C : zC D cy p s m args meth c own cc nL) (hz : zH D A f H) (hS : va_S A H0 H locs) (ha : f a = some (.inl (cy 2, n, .inl g))) (hi : i = nI j) (hj : j < n) (hn : n < 2 ^ 31) (hx : vp_nar .boolean x = x) (hdg : decode cc pc = .ok (.bastore, 1))
    (kk : ∀ (H1 : Heap) (locs1 : List Loc) (f1 : zM), f1 a = some (.inl (cy 2, n, .inl (upd g j x))) → (∀ b, b ≠ a → f1 b = f b) → zH D A f1 H1 → va_S A H0 H1 locs1 → W p l e R s m args below meth c H1 locs1 cells slots Q (F0 m (pc + 1) ls rest)) : W p l e R s m args below meth c H locs cells slots Q (F0 m pc ls (.int x :: .int i :: .ref a :: rest)) := by
  subst hi
  obtain ⟨ws, q0, hP, hD, hq, -, hb⟩ := z_set hz ha
  refine va_zast C.1 C.2.1 C.2.2.2.2.2.1 hP hD hS q0 2 hq rfl (vp_in_nI hj hn) hdg (fun H1 locs1 hP1 hD1 hS1 => ?_)
  refine kk H1 locs1 _ ?_ (fun b h => va_up_ne f _ h) (hb _ H1 hP1 hD1) hS1
  rw [nI_clamp (Nat.lt_trans hj hn), hx]
  exact va_up_self f a _
abbrev rmX8_shelf : Room := { frames := 3, cells := 0, slots := 0, locals := 67 }
set_option maxHeartbeats 4000000 in
set_option maxRecDepth 100000 in
theorem k_X8_shelf (l : Launch) (D : va_G) (cy : Nat → ClassId) (f : zM) (o : Nat) (wev : Nat) (wnb : Nat) (wki : Nat) (wmy : Nat) (wce : Nat) (wiw : Nat) (wli : Nat) (wha : Nat) (wwt : Nat) (wfy : Nat) (wfk : Nat) (wem : Nat) (wna : Nat) (wpl : Nat) (whs : Nat) (wk1 : Nat) (wk2 : Nat) (wk3 : Nat) (u1 : Int32) (u2 : Int32) (u3 : Int32) (nl : Nat) (nn : Nat) (nf : Nat) (nc : Nat) (lk : Int64) (ks : Nat) (gv : Nat → Int32) (gu : Nat → Int32) (gk : Nat → Int32) (gm : Nat → Int32) (gc : Nat → Int64) (gw : Nat → Int32) (gl : Nat → Int32) (gh : Nat → Int32) (gt : Nat → Int64) (gy : Nat → Int32) (gq : Nat → Int32) (ge1 : Nat → Int32) (gn1 : Nat → Int32) (gp1 : Nat → Int32) (gs : Nat → Int32) (gx1 : Nat → Int32) (gx2 : Nat → Int32) (gx3 : Nat → Int32) (ln : Nat → Nat) (fz : Nat → Nat) (sq : Nat → Nat) (w : Int32) (x : Int32)   (hw : w = 0 ∨ w = 1) (hI : zIM cy f o wev wnb wki wmy wce wiw wli wha wwt wfy wfk wem wna wpl whs wk1 wk2 wk3 u1 u2 u3 nl nn nf nc lk ks gv gu gk gm gc gw gl gh gt gy gq ge1 gn1 gp1 gs gx1 gx2 gx3 ln fz sq) : zCi l D cy yX8_shelf cX8_shelf 4 (Option.some Jvm.ClassFile.FieldType.int) rmX8_shelf [.ref o, .int w, .int x] f (fun (r : Int32) (f1 : zM) => ∃ (u11 : Int32) (u21 : Int32) (u31 : Int32) (nl1 : Nat) (nn1 : Nat) (nf1 : Nat) (nc1 : Nat) (lk1 : Int64) (ks1 : Nat) (gv1 : Nat → Int32) (gu1 : Nat → Int32) (gk1 : Nat → Int32) (gm1 : Nat → Int32) (gc1 : Nat → Int64) (gw1 : Nat → Int32) (gl1 : Nat → Int32) (gh1 : Nat → Int32) (gt1 : Nat → Int64) (gy1 : Nat → Int32) (gq1 : Nat → Int32) (ge11 : Nat → Int32) (gn11 : Nat → Int32) (gp11 : Nat → Int32) (gs1 : Nat → Int32) (gx11 : Nat → Int32) (gx21 : Nat → Int32) (gx31 : Nat → Int32) (ln1 : Nat → Nat) (fz1 : Nat → Nat) (sq1 : Nat → Nat), r = ((q_shelf nn x).1) ∧ (u11 = (q_shelf nn x).2.1) ∧ (u21 = (q_shelf nn x).2.2.1) ∧ (u31 = (q_shelf nn x).2.2.2) ∧ (gv1 = zEV gv (q_shelf nn x).2.1) ∧ (nl1 = nl) ∧ (gu1 = gu) ∧ (nn1 = if 0 ≤ r then nn + 1 else nn) ∧ (gk1 = if 0 ≤ r then va_up gk nn 6 else gk) ∧ (ln1 = if 0 ≤ r then va_up ln nn (1 + fI x) else ln) ∧ (gw1 = if 0 ≤ r then va_up gw nn w else gw) ∧ (gh1 = if 0 ≤ r then va_up gh nn (zHash 6 nn (1 + fI x) (qshelf x) gh) else gh) ∧ (zGC nn (0 ≤ r) (1 + fI x) (qshelf x) gc gc1) ∧ (nf1 = nf) ∧ (fz1 = fz) ∧ (gq1 = gq) ∧ (nc1 = nc) ∧ (ge11 = ge1) ∧ (gn11 = gn1) ∧ (gp11 = gp1) ∧ (sq1 = sq) ∧ (ks1 = ks) ∧ (gx11 = gx1) ∧ (gx21 = gx2) ∧ (gx31 = gx3) ∧ (lk1 = lk) ∧ ((0 ≤ r → ∃ jl, jl ≤ nn ∧ gl1 = upd gl nn (nI jl) ∧ (jl < nn → zLC1 gk1 gl gc1 ln nn (1 + fI x) jl) ∧ ∀ o, o < jl → ¬ zLC1 gk1 gl gc1 ln nn (1 + fI x) o) ∧ (¬ 0 ≤ r → gl1 = gl)) ∧ zIM cy f1 o wev wnb wki wmy wce wiw wli wha wwt wfy wfk wem wna wpl whs wk1 wk2 wk3 u11 u21 u31 nl1 nn1 nf1 nc1 lk1 ks1 gv1 gu1 gk1 gm1 gc1 gw1 gl1 gh1 gt1 gy1 gq1 ge11 gn11 gp11 gs1 gx11 gx21 gx31 ln1 fz1 sq1) := by
  intro sz
  refine z_body (by decide +kernel) (Nat.le_of_ble_eq_true rfl) ?_
  intro p e s m below meth c ls C hr hin hsz hz hl
  subst hsz
  have hx := C.1
  have hb := C.2.1
  have hA : ∀ q, s.heap.size ≤ q → zA f s.heap.size q := fun q h => Or.inr h
  have hS : va_S (zA f s.heap.size) s.heap s.heap [] := va_S.rf
  have hl : lv_has ls 4 [(0, .ref o), (1, .int w), (2, .int x)] := hl
  obtain ⟨x_o, x_wev, x_wnb, x_wki, x_wmy, x_wce, x_wiw, x_wli, x_wha, x_wwt, x_wfy, x_wfk, x_wem, x_wna, x_wpl, x_whs, x_wk1, x_wk2, x_wk3, hn60, hl12, hf6, hc60, hs40, hMP, hgy, hfz, hgs, hME, hlk, hgw, hfd, n_wki_wmy, n_wki_wiw, n_wki_wli, n_wki_wha, n_wki_wem, n_wki_wna, n_wki_wpl, n_wmy_wiw, n_wmy_wli, n_wmy_wha, n_wmy_wem, n_wmy_wna, n_wmy_wpl, n_wiw_wli, n_wiw_wha, n_wiw_wem, n_wiw_wna, n_wiw_wpl, n_wli_wha, n_wli_wem, n_wli_wna, n_wli_wpl, n_wha_wem, n_wha_wna, n_wha_wpl, n_wem_wna, n_wem_wpl, n_wna_wpl, n_wk1_wk2, n_wk1_wk3, n_wk2_wk3⟩ := id hI
  refine lv_aload_n hx hb dX8_shelf_0 rfl (lv_at hl 0 rfl) ?_
  refine z_callVv (As := []) C hz hS hA hl (k_X8_begin l D cy f o wev wnb wki wmy wce wiw wli wha wwt wfy wfk wem wna wpl whs wk1 wk2 wk3 u1 u2 u3 nl nn nf nc lk ks x_o ) zyX8_begin mMX8_116 x_o zl8 rfl rfl (Nat.le_of_ble_eq_true rfl) ⟨Nat.le_of_ble_eq_true rfl, Nat.le_of_ble_eq_true rfl⟩ ⟨Nat.le_of_ble_eq_true rfl, Nat.le_of_ble_eq_true rfl⟩ dX8_shelf_1 (fun  f1 H locs h2 hz hS => ?_)
  obtain ⟨a3, k4⟩ := h2
  refine lv_iload_n hx hb dX8_shelf_4 rfl (lv_at hl 2 rfl) ?_
  refine lv_bipush (v := 12) hx hb dX8_shelf_5 (by decide) ?_
  refine lv_icmp_le (tgt := 13) hx hb dX8_shelf_7 (by decide) (fun c5 => ?_) (fun c5 => ?_)
  · refine lv_aload_n hx hb dX8_shelf_13 rfl (lv_at hl 0 rfl) ?_
    refine z_get (v := .int (nI nn)) C hz a3 zl8 mFX8_83 (by decide) rfl dX8_shelf_14 ?_
    refine lv_bipush (v := 60) hx hb dX8_shelf_17 (by decide) ?_
    refine lv_icmp_ne (tgt := 25) hx hb dX8_shelf_19 (by decide) (fun c6 => ?_) (fun c6 => ?_)
    · replace c6 : ¬ (nn = 60) := fun h => c6 ((nI_eq (a := nn) (b := 60) (by omega) (by omega)).mpr h)
      have h60 : nn < 60 := by omega
      refine lv_iload_n hx hb dX8_shelf_25 rfl (lv_at hl 2 rfl) ?_
      refine lv_if_ge (tgt := 37) hx hb dX8_shelf_26 (by decide) (fun c7 => ?_) (fun c7 => ?_)
      · obtain ⟨t, ht, hxt⟩ := z_ixn (n := 12) (by decide) c7 c5
        have hIx : fI x = t := fI_of (by omega) hxt
        refine lv_aload_n hx hb dX8_shelf_37 rfl (lv_at hl 0 rfl) ?_
        refine lv_bipush (v := 6) hx hb dX8_shelf_38 (by decide) ?_
        have a8 : f1 wki = some (.inl (cy 0, 60, .inl gk)) := k4 _ _ x_wki (z_ne x_wki x_o rfl)
        have a9 : f1 wmy = some (.inl (cy 0, 60, .inl gm)) := k4 _ _ x_wmy (z_ne x_wmy x_o rfl)
        refine z_callVv (As := [.int 6]) C hz hS hA hl (k_X8_start l D cy f1 o wev wnb wki wmy wce wiw wli wha wwt wfy wfk wem wna wpl whs wk1 wk2 wk3 0 (-1) 0 nl nn nf nc lk ks gk gm 6 a3 a8 a9 (by omega) n_wki_wmy) zyX8_start mMX8_119 a3 zl8 rfl rfl (Nat.le_of_ble_eq_true rfl) ⟨Nat.le_of_ble_eq_true rfl, Nat.le_of_ble_eq_true rfl⟩ ⟨Nat.le_of_ble_eq_true rfl, Nat.le_of_ble_eq_true rfl⟩ dX8_shelf_40 (fun  f10 H locs h11 hz hS => ?_)
        obtain ⟨a12, a13, k14⟩ := h11
        refine lv_aload_n hx hb dX8_shelf_43 rfl (lv_at hl 0 rfl) ?_
        have a15 : f10 o = some (.inr (8, [.int 0, .int (-1), .int 0, .ref wev, .int (nI nl), .ref wnb, .int (nI nn), .ref wki, .ref wmy, .ref wce, .ref wiw, .ref wli, .ref wha, .ref wwt, .int (nI nf), .ref wfy, .ref wfk, .int (nI nc), .ref wem, .ref wna, .ref wpl, .ref whs, .long lk, .int (nI ks), .ref wk1, .ref wk2, .ref wk3])) := k14 _ _ a3 (z_ne a3 a8 rfl) (z_ne a3 a9 rfl)
        refine z_get (v := .ref wiw) C hz a15 zl8 mFX8_30 (by decide) rfl dX8_shelf_44 ?_
        refine lv_aload_n hx hb dX8_shelf_47 rfl (lv_at hl 0 rfl) ?_
        refine z_get (v := .int (nI nn)) C hz a15 zl8 mFX8_83 (by decide) rfl dX8_shelf_48 ?_
        refine lv_iload_n hx hb dX8_shelf_51 rfl (lv_at hl 1 rfl) ?_
        have a16 : f1 wiw = some (.inl (cy 2, 60, .inl gw)) := k4 _ _ x_wiw (z_ne x_wiw x_o rfl)
        have a17 : f10 wiw = some (.inl (cy 2, 60, .inl gw)) := k14 _ _ a16 (Ne.symm n_wki_wiw) (Ne.symm n_wmy_wiw)
        refine z_zast nn C hz hS a17 rfl (by omega) (by omega) (by rcases hw with rfl | rfl <;> rfl) dX8_shelf_52 (fun H locs f18 a19 k20 hz hS => ?_)
        refine lv_aload_n hx hb dX8_shelf_53 rfl (lv_at hl 0 rfl) ?_
        refine lv_iload_n hx hb dX8_shelf_54 rfl (lv_at hl 2 rfl) ?_
        refine lv_i2l (v := x.toInt64) hx hb dX8_shelf_55 rfl ?_
        have a21 : f18 o = some (.inr (8, [.int 0, .int (-1), .int 0, .ref wev, .int (nI nl), .ref wnb, .int (nI nn), .ref wki, .ref wmy, .ref wce, .ref wiw, .ref wli, .ref wha, .ref wwt, .int (nI nf), .ref wfy, .ref wfk, .int (nI nc), .ref wem, .ref wna, .ref wpl, .ref whs, .long lk, .int (nI ks), .ref wk1, .ref wk2, .ref wk3])) := (k20 _ (z_ne a15 a17 rfl)).trans a15
        have a22 : f1 wce = some (.inl (cy 1, 960, .inr (.inl gc))) := k4 _ _ x_wce (z_ne x_wce x_o rfl)
        have a23 : f10 wce = some (.inl (cy 1, 960, .inr (.inl gc))) := k14 _ _ a22 (z_ne a22 a8 rfl) (z_ne a22 a9 rfl)
        have a24 : f18 wce = some (.inl (cy 1, 960, .inr (.inl gc))) := (k20 _ (z_ne a23 a17 rfl)).trans a23
        have a25 : f18 wmy = some (.inl (cy 0, 60, .inl (upd gm nn 0))) := (k20 _ n_wmy_wiw).trans a13
        refine z_callVv (As := [.long x.toInt64]) C hz hS hA hl (k_X8_part l D cy f18 o wev wnb wki wmy wce wiw wli wha wwt wfy wfk wem wna wpl whs wk1 wk2 wk3 0 (-1) 0 nl nn nf nc lk ks gc (upd gm nn 0) x.toInt64 0 a21 a24 a25 (by omega) pk_us (by omega)) zyX8_part mMX8_127 a21 zl8 rfl rfl (Nat.le_of_ble_eq_true rfl) ⟨Nat.le_of_ble_eq_true rfl, Nat.le_of_ble_eq_true rfl⟩ ⟨Nat.le_of_ble_eq_true rfl, Nat.le_of_ble_eq_true rfl⟩ dX8_shelf_56 (fun  f26 H locs h27 hz hS => ?_)
        obtain ⟨a28, a29, k30⟩ := h27
        refine lv_iconst (v := 0) hx hb dX8_shelf_59 (by decide) ?_
        refine lv_istore_n (lv' := [(3, .int 0), (0, .ref o), (1, .int w), (2, .int x)]) hx hb dX8_shelf_60 rfl hl (by decide) rfl (fun ls hl => ?_)
        have lp31 : ∀ (n : Nat) (i : Nat) (gcv : Nat → Int64) (gmv : Nat → Int32) (fL32 : zM) (H : Heap) (locs : List Loc) (ls : Array Slot), (t - i) < n → (i ≤ t) → (gmv nn = nI (1 + i)) → (∀ i9, i9 < nn → gmv i9 = gm i9) → (∀ i9, i9 < nn → ∀ j9, j9 < 16 → gcv (16 * i9 + j9) = gc (16 * i9 + j9)) → (∀ j, j < 1 + i → gcv (16 * nn + j) = qshelf x j) → fL32 wce = some (.inl (cy 1, 960, .inr (.inl gcv))) → fL32 wmy = some (.inl (cy 0, 60, .inl gmv)) → (∀ (b : Nat) (e : va_E), f26 b = some e → b ≠ wce → b ≠ wmy → fL32 b = some e) → zH D (zA f s.heap.size) fL32 H → va_S (zA f s.heap.size) s.heap H locs → lv_has ls 4 [(0, .ref o), (2, .int x), (3, .int (nI i))] → W p l e rmX8_shelf s m ([.ref o, .int w, .int x] : List Value).toArray below meth c H locs 0 0 (MQ below (va_Qi (fun (r : Int32) (f1 : zM) => ∃ (u11 : Int32) (u21 : Int32) (u31 : Int32) (nl1 : Nat) (nn1 : Nat) (nf1 : Nat) (nc1 : Nat) (lk1 : Int64) (ks1 : Nat) (gv1 : Nat → Int32) (gu1 : Nat → Int32) (gk1 : Nat → Int32) (gm1 : Nat → Int32) (gc1 : Nat → Int64) (gw1 : Nat → Int32) (gl1 : Nat → Int32) (gh1 : Nat → Int32) (gt1 : Nat → Int64) (gy1 : Nat → Int32) (gq1 : Nat → Int32) (ge11 : Nat → Int32) (gn11 : Nat → Int32) (gp11 : Nat → Int32) (gs1 : Nat → Int32) (gx11 : Nat → Int32) (gx21 : Nat → Int32) (gx31 : Nat → Int32) (ln1 : Nat → Nat) (fz1 : Nat → Nat) (sq1 : Nat → Nat), r = ((q_shelf nn x).1) ∧ (u11 = (q_shelf nn x).2.1) ∧ (u21 = (q_shelf nn x).2.2.1) ∧ (u31 = (q_shelf nn x).2.2.2) ∧ (gv1 = zEV gv (q_shelf nn x).2.1) ∧ (nl1 = nl) ∧ (gu1 = gu) ∧ (nn1 = if 0 ≤ r then nn + 1 else nn) ∧ (gk1 = if 0 ≤ r then va_up gk nn 6 else gk) ∧ (ln1 = if 0 ≤ r then va_up ln nn (1 + fI x) else ln) ∧ (gw1 = if 0 ≤ r then va_up gw nn w else gw) ∧ (gh1 = if 0 ≤ r then va_up gh nn (zHash 6 nn (1 + fI x) (qshelf x) gh) else gh) ∧ (zGC nn (0 ≤ r) (1 + fI x) (qshelf x) gc gc1) ∧ (nf1 = nf) ∧ (fz1 = fz) ∧ (gq1 = gq) ∧ (nc1 = nc) ∧ (ge11 = ge1) ∧ (gn11 = gn1) ∧ (gp11 = gp1) ∧ (sq1 = sq) ∧ (ks1 = ks) ∧ (gx11 = gx1) ∧ (gx21 = gx2) ∧ (gx31 = gx3) ∧ (lk1 = lk) ∧ ((0 ≤ r → ∃ jl, jl ≤ nn ∧ gl1 = upd gl nn (nI jl) ∧ (jl < nn → zLC1 gk1 gl gc1 ln nn (1 + fI x) jl) ∧ ∀ o, o < jl → ¬ zLC1 gk1 gl gc1 ln nn (1 + fI x) o) ∧ (¬ 0 ≤ r → gl1 = gl)) ∧ zIM cy f1 o wev wnb wki wmy wce wiw wli wha wwt wfy wfk wem wna wpl whs wk1 wk2 wk3 u11 u21 u31 nl1 nn1 nf1 nc1 lk1 ks1 gv1 gu1 gk1 gm1 gc1 gw1 gl1 gh1 gt1 gy1 gq1 ge11 gn11 gp11 gs1 gx11 gx21 gx31 ln1 fz1 sq1) (zB D f s.heap.size) (zA f s.heap.size)) ([.ref o, .int w, .int x] : List Value).toArray s rmX8_shelf.cells rmX8_shelf.slots (zA f s.heap.size)) (F0 m 61 ls []) := by
          intro n
          induction n with
          | zero => intro i gcv gmv fL32 H locs ls hmz; exact absurd hmz (Nat.not_lt_zero _)
          | succ n ih =>
            intro i gcv gmv fL32 H locs ls hmz hi hgm hgk9 hgc9 hgr a34 a35 k33 hz hS hl
            refine lv_iload_n hx hb dX8_shelf_61 rfl (lv_at hl 2 rfl) ?_
            refine lv_iload_n hx hb dX8_shelf_62 rfl (lv_at hl 1 rfl) ?_
            refine lv_icmp_ge (tgt := 79) hx hb dX8_shelf_63 (by decide) (fun c36 => ?_) (fun c36 => ?_)
            · replace c36 : t ≤ i := by rw [hxt] at c36; exact (nI_leI (by omega) (by omega)).mp c36
              refine lv_aload_n hx hb dX8_shelf_79 rfl (lv_at hl 0 rfl) ?_
              have a37 : f26 o = some (.inr (8, [.int 0, .int (-1), .int 0, .ref wev, .int (nI nl), .ref wnb, .int (nI nn), .ref wki, .ref wmy, .ref wce, .ref wiw, .ref wli, .ref wha, .ref wwt, .int (nI nf), .ref wfy, .ref wfk, .int (nI nc), .ref wem, .ref wna, .ref wpl, .ref whs, .long lk, .int (nI ks), .ref wk1, .ref wk2, .ref wk3])) := k30 _ _ a21 (z_ne a21 a24 rfl) (z_ne a21 a25 rfl)
              have a38 : fL32 o = some (.inr (8, [.int 0, .int (-1), .int 0, .ref wev, .int (nI nl), .ref wnb, .int (nI nn), .ref wki, .ref wmy, .ref wce, .ref wiw, .ref wli, .ref wha, .ref wwt, .int (nI nf), .ref wfy, .ref wfk, .int (nI nc), .ref wem, .ref wna, .ref wpl, .ref whs, .long lk, .int (nI ks), .ref wk1, .ref wk2, .ref wk3])) := k33 _ _ a37 (z_ne a37 a28 rfl) (z_ne a37 a29 rfl)
              have a39 : f18 wki = some (.inl (cy 0, 60, .inl (upd gk nn 6))) := (k20 _ n_wki_wiw).trans a12
              have a40 : f26 wki = some (.inl (cy 0, 60, .inl (upd gk nn 6))) := k30 _ _ a39 (z_ne a39 a24 rfl) n_wki_wmy
              have a41 : fL32 wki = some (.inl (cy 0, 60, .inl (upd gk nn 6))) := k33 _ _ a40 (z_ne a40 a28 rfl) n_wki_wmy
              have a42 : f1 wli = some (.inl (cy 0, 60, .inl gl)) := k4 _ _ x_wli (z_ne x_wli x_o rfl)
              have a43 : f10 wli = some (.inl (cy 0, 60, .inl gl)) := k14 _ _ a42 (Ne.symm n_wki_wli) (Ne.symm n_wmy_wli)
              have a44 : f18 wli = some (.inl (cy 0, 60, .inl gl)) := (k20 _ (Ne.symm n_wiw_wli)).trans a43
              have a45 : f26 wli = some (.inl (cy 0, 60, .inl gl)) := k30 _ _ a44 (z_ne a44 a24 rfl) (Ne.symm n_wmy_wli)
              have a46 : fL32 wli = some (.inl (cy 0, 60, .inl gl)) := k33 _ _ a45 (z_ne a45 a28 rfl) (Ne.symm n_wmy_wli)
              have a47 : f1 wha = some (.inl (cy 0, 60, .inl gh)) := k4 _ _ x_wha (z_ne x_wha x_o rfl)
              have a48 : f10 wha = some (.inl (cy 0, 60, .inl gh)) := k14 _ _ a47 (Ne.symm n_wki_wha) (Ne.symm n_wmy_wha)
              have a49 : f18 wha = some (.inl (cy 0, 60, .inl gh)) := (k20 _ (Ne.symm n_wiw_wha)).trans a48
              have a50 : f26 wha = some (.inl (cy 0, 60, .inl gh)) := k30 _ _ a49 (z_ne a49 a24 rfl) (Ne.symm n_wmy_wha)
              have a51 : fL32 wha = some (.inl (cy 0, 60, .inl gh)) := k33 _ _ a50 (z_ne a50 a28 rfl) (Ne.symm n_wmy_wha)
              refine z_callVi (As := []) C hz hS hA hl (k_X8_made l D cy fL32 o wev wnb wki wmy wce wiw wli wha wwt wfy wfk wem wna wpl whs wk1 wk2 wk3 0 (-1) 0 nl nn nf nc lk ks (upd gk nn 6) gmv gcv gl gh ln (1 + i) a38 a41 a35 a34 a46 a51 (by omega) (zMP_keep hMP (fun i9 h9 => by simp only [upd, if_neg (show ¬ i9 = nn by omega)]) hgk9 hgc9) hgm (by omega) (by rw [pk_us]; exact fun h9 => absurd h9 (by decide)) n_wki_wmy n_wki_wli n_wki_wha n_wmy_wli n_wmy_wha n_wli_wha) zyX8_made mMX8_131 a38 zl8 rfl rfl (Nat.le_of_ble_eq_true rfl) ⟨Nat.le_of_ble_eq_true rfl, Nat.le_of_ble_eq_true rfl⟩ ⟨Nat.le_of_ble_eq_true rfl, Nat.le_of_ble_eq_true rfl⟩ dX8_shelf_80 (fun r f52 H locs h53 hz hS => ?_)
              obtain ⟨jl_54, rfl, pq55, pq56, pq57, a58, a59, a60, k61⟩ := h53
              have a62 : f1 wev = some (.inl (cy 0, 8, .inl gv)) := k4 _ _ x_wev (z_ne x_wev x_o rfl)
              have a63 : f10 wev = some (.inl (cy 0, 8, .inl gv)) := k14 _ _ a62 (z_ne a62 a8 rfl) (z_ne a62 a9 rfl)
              have a64 : f18 wev = some (.inl (cy 0, 8, .inl gv)) := (k20 _ (z_ne a63 a17 rfl)).trans a63
              have a65 : f26 wev = some (.inl (cy 0, 8, .inl gv)) := k30 _ _ a64 (z_ne a64 a24 rfl) (z_ne a64 a25 rfl)
              have a66 : fL32 wev = some (.inl (cy 0, 8, .inl gv)) := k33 _ _ a65 (z_ne a65 a28 rfl) (z_ne a65 a29 rfl)
              have a67 : f52 wev = some (.inl (cy 0, 8, .inl gv)) := k61 _ _ a66 (z_ne a66 a38 rfl) (z_ne a66 a46 rfl) (z_ne a66 a51 rfl)
              have a68 : f1 wnb = some (.inl (cy 0, 12, .inl gu)) := k4 _ _ x_wnb (z_ne x_wnb x_o rfl)
              have a69 : f10 wnb = some (.inl (cy 0, 12, .inl gu)) := k14 _ _ a68 (z_ne a68 a8 rfl) (z_ne a68 a9 rfl)
              have a70 : f18 wnb = some (.inl (cy 0, 12, .inl gu)) := (k20 _ (z_ne a69 a17 rfl)).trans a69
              have a71 : f26 wnb = some (.inl (cy 0, 12, .inl gu)) := k30 _ _ a70 (z_ne a70 a24 rfl) (z_ne a70 a25 rfl)
              have a72 : fL32 wnb = some (.inl (cy 0, 12, .inl gu)) := k33 _ _ a71 (z_ne a71 a28 rfl) (z_ne a71 a29 rfl)
              have a73 : f52 wnb = some (.inl (cy 0, 12, .inl gu)) := k61 _ _ a72 (z_ne a72 a38 rfl) (z_ne a72 a46 rfl) (z_ne a72 a51 rfl)
              have a74 : f52 wki = some (.inl (cy 0, 60, .inl (upd gk nn 6))) := k61 _ _ a41 (z_ne a41 a38 rfl) n_wki_wli n_wki_wha
              have a75 : f52 wmy = some (.inl (cy 0, 60, .inl gmv)) := k61 _ _ a35 (z_ne a35 a38 rfl) n_wmy_wli n_wmy_wha
              have a76 : f52 wce = some (.inl (cy 1, 960, .inr (.inl gcv))) := k61 _ _ a34 (z_ne a34 a38 rfl) (z_ne a34 a46 rfl) (z_ne a34 a51 rfl)
              have a77 : f26 wiw = some (.inl (cy 2, 60, .inl (upd gw nn w))) := k30 _ _ a19 (z_ne a19 a24 rfl) (Ne.symm n_wmy_wiw)
              have a78 : fL32 wiw = some (.inl (cy 2, 60, .inl (upd gw nn w))) := k33 _ _ a77 (z_ne a77 a28 rfl) (Ne.symm n_wmy_wiw)
              have a79 : f52 wiw = some (.inl (cy 2, 60, .inl (upd gw nn w))) := k61 _ _ a78 (z_ne a78 a38 rfl) n_wiw_wli n_wiw_wha
              have a80 : f1 wwt = some (.inl (cy 1, 60, .inr (.inl gt))) := k4 _ _ x_wwt (z_ne x_wwt x_o rfl)
              have a81 : f10 wwt = some (.inl (cy 1, 60, .inr (.inl gt))) := k14 _ _ a80 (z_ne a80 a8 rfl) (z_ne a80 a9 rfl)
              have a82 : f18 wwt = some (.inl (cy 1, 60, .inr (.inl gt))) := (k20 _ (z_ne a81 a17 rfl)).trans a81
              have a83 : f26 wwt = some (.inl (cy 1, 60, .inr (.inl gt))) := k30 _ _ a82 (z_ne a82 a24 rfl) (z_ne a82 a25 rfl)
              have a84 : fL32 wwt = some (.inl (cy 1, 60, .inr (.inl gt))) := k33 _ _ a83 (z_ne a83 a28 rfl) (z_ne a83 a29 rfl)
              have a85 : f52 wwt = some (.inl (cy 1, 60, .inr (.inl gt))) := k61 _ _ a84 (z_ne a84 a38 rfl) (z_ne a84 a46 rfl) (z_ne a84 a51 rfl)
              have a86 : f1 wfy = some (.inl (cy 0, 6, .inl gy)) := k4 _ _ x_wfy (z_ne x_wfy x_o rfl)
              have a87 : f10 wfy = some (.inl (cy 0, 6, .inl gy)) := k14 _ _ a86 (z_ne a86 a8 rfl) (z_ne a86 a9 rfl)
              have a88 : f18 wfy = some (.inl (cy 0, 6, .inl gy)) := (k20 _ (z_ne a87 a17 rfl)).trans a87
              have a89 : f26 wfy = some (.inl (cy 0, 6, .inl gy)) := k30 _ _ a88 (z_ne a88 a24 rfl) (z_ne a88 a25 rfl)
              have a90 : fL32 wfy = some (.inl (cy 0, 6, .inl gy)) := k33 _ _ a89 (z_ne a89 a28 rfl) (z_ne a89 a29 rfl)
              have a91 : f52 wfy = some (.inl (cy 0, 6, .inl gy)) := k61 _ _ a90 (z_ne a90 a38 rfl) (z_ne a90 a46 rfl) (z_ne a90 a51 rfl)
              have a92 : f1 wfk = some (.inl (cy 0, 24, .inl gq)) := k4 _ _ x_wfk (z_ne x_wfk x_o rfl)
              have a93 : f10 wfk = some (.inl (cy 0, 24, .inl gq)) := k14 _ _ a92 (z_ne a92 a8 rfl) (z_ne a92 a9 rfl)
              have a94 : f18 wfk = some (.inl (cy 0, 24, .inl gq)) := (k20 _ (z_ne a93 a17 rfl)).trans a93
              have a95 : f26 wfk = some (.inl (cy 0, 24, .inl gq)) := k30 _ _ a94 (z_ne a94 a24 rfl) (z_ne a94 a25 rfl)
              have a96 : fL32 wfk = some (.inl (cy 0, 24, .inl gq)) := k33 _ _ a95 (z_ne a95 a28 rfl) (z_ne a95 a29 rfl)
              have a97 : f52 wfk = some (.inl (cy 0, 24, .inl gq)) := k61 _ _ a96 (z_ne a96 a38 rfl) (z_ne a96 a46 rfl) (z_ne a96 a51 rfl)
              have a98 : f1 wem = some (.inl (cy 0, 60, .inl ge1)) := k4 _ _ x_wem (z_ne x_wem x_o rfl)
              have a99 : f10 wem = some (.inl (cy 0, 60, .inl ge1)) := k14 _ _ a98 (Ne.symm n_wki_wem) (Ne.symm n_wmy_wem)
              have a100 : f18 wem = some (.inl (cy 0, 60, .inl ge1)) := (k20 _ (Ne.symm n_wiw_wem)).trans a99
              have a101 : f26 wem = some (.inl (cy 0, 60, .inl ge1)) := k30 _ _ a100 (z_ne a100 a24 rfl) (Ne.symm n_wmy_wem)
              have a102 : fL32 wem = some (.inl (cy 0, 60, .inl ge1)) := k33 _ _ a101 (z_ne a101 a28 rfl) (Ne.symm n_wmy_wem)
              have a103 : f52 wem = some (.inl (cy 0, 60, .inl ge1)) := k61 _ _ a102 (z_ne a102 a38 rfl) (Ne.symm n_wli_wem) (Ne.symm n_wha_wem)
              have a104 : f1 wna = some (.inl (cy 0, 60, .inl gn1)) := k4 _ _ x_wna (z_ne x_wna x_o rfl)
              have a105 : f10 wna = some (.inl (cy 0, 60, .inl gn1)) := k14 _ _ a104 (Ne.symm n_wki_wna) (Ne.symm n_wmy_wna)
              have a106 : f18 wna = some (.inl (cy 0, 60, .inl gn1)) := (k20 _ (Ne.symm n_wiw_wna)).trans a105
              have a107 : f26 wna = some (.inl (cy 0, 60, .inl gn1)) := k30 _ _ a106 (z_ne a106 a24 rfl) (Ne.symm n_wmy_wna)
              have a108 : fL32 wna = some (.inl (cy 0, 60, .inl gn1)) := k33 _ _ a107 (z_ne a107 a28 rfl) (Ne.symm n_wmy_wna)
              have a109 : f52 wna = some (.inl (cy 0, 60, .inl gn1)) := k61 _ _ a108 (z_ne a108 a38 rfl) (Ne.symm n_wli_wna) (Ne.symm n_wha_wna)
              have a110 : f1 wpl = some (.inl (cy 0, 60, .inl gp1)) := k4 _ _ x_wpl (z_ne x_wpl x_o rfl)
              have a111 : f10 wpl = some (.inl (cy 0, 60, .inl gp1)) := k14 _ _ a110 (Ne.symm n_wki_wpl) (Ne.symm n_wmy_wpl)
              have a112 : f18 wpl = some (.inl (cy 0, 60, .inl gp1)) := (k20 _ (Ne.symm n_wiw_wpl)).trans a111
              have a113 : f26 wpl = some (.inl (cy 0, 60, .inl gp1)) := k30 _ _ a112 (z_ne a112 a24 rfl) (Ne.symm n_wmy_wpl)
              have a114 : fL32 wpl = some (.inl (cy 0, 60, .inl gp1)) := k33 _ _ a113 (z_ne a113 a28 rfl) (Ne.symm n_wmy_wpl)
              have a115 : f52 wpl = some (.inl (cy 0, 60, .inl gp1)) := k61 _ _ a114 (z_ne a114 a38 rfl) (Ne.symm n_wli_wpl) (Ne.symm n_wha_wpl)
              have a116 : f1 whs = some (.inl (cy 0, 4, .inl gs)) := k4 _ _ x_whs (z_ne x_whs x_o rfl)
              have a117 : f10 whs = some (.inl (cy 0, 4, .inl gs)) := k14 _ _ a116 (z_ne a116 a8 rfl) (z_ne a116 a9 rfl)
              have a118 : f18 whs = some (.inl (cy 0, 4, .inl gs)) := (k20 _ (z_ne a117 a17 rfl)).trans a117
              have a119 : f26 whs = some (.inl (cy 0, 4, .inl gs)) := k30 _ _ a118 (z_ne a118 a24 rfl) (z_ne a118 a25 rfl)
              have a120 : fL32 whs = some (.inl (cy 0, 4, .inl gs)) := k33 _ _ a119 (z_ne a119 a28 rfl) (z_ne a119 a29 rfl)
              have a121 : f52 whs = some (.inl (cy 0, 4, .inl gs)) := k61 _ _ a120 (z_ne a120 a38 rfl) (z_ne a120 a46 rfl) (z_ne a120 a51 rfl)
              have a122 : f1 wk1 = some (.inl (cy 0, 40, .inl gx1)) := k4 _ _ x_wk1 (z_ne x_wk1 x_o rfl)
              have a123 : f10 wk1 = some (.inl (cy 0, 40, .inl gx1)) := k14 _ _ a122 (z_ne a122 a8 rfl) (z_ne a122 a9 rfl)
              have a124 : f18 wk1 = some (.inl (cy 0, 40, .inl gx1)) := (k20 _ (z_ne a123 a17 rfl)).trans a123
              have a125 : f26 wk1 = some (.inl (cy 0, 40, .inl gx1)) := k30 _ _ a124 (z_ne a124 a24 rfl) (z_ne a124 a25 rfl)
              have a126 : fL32 wk1 = some (.inl (cy 0, 40, .inl gx1)) := k33 _ _ a125 (z_ne a125 a28 rfl) (z_ne a125 a29 rfl)
              have a127 : f52 wk1 = some (.inl (cy 0, 40, .inl gx1)) := k61 _ _ a126 (z_ne a126 a38 rfl) (z_ne a126 a46 rfl) (z_ne a126 a51 rfl)
              have a128 : f1 wk2 = some (.inl (cy 0, 40, .inl gx2)) := k4 _ _ x_wk2 (z_ne x_wk2 x_o rfl)
              have a129 : f10 wk2 = some (.inl (cy 0, 40, .inl gx2)) := k14 _ _ a128 (z_ne a128 a8 rfl) (z_ne a128 a9 rfl)
              have a130 : f18 wk2 = some (.inl (cy 0, 40, .inl gx2)) := (k20 _ (z_ne a129 a17 rfl)).trans a129
              have a131 : f26 wk2 = some (.inl (cy 0, 40, .inl gx2)) := k30 _ _ a130 (z_ne a130 a24 rfl) (z_ne a130 a25 rfl)
              have a132 : fL32 wk2 = some (.inl (cy 0, 40, .inl gx2)) := k33 _ _ a131 (z_ne a131 a28 rfl) (z_ne a131 a29 rfl)
              have a133 : f52 wk2 = some (.inl (cy 0, 40, .inl gx2)) := k61 _ _ a132 (z_ne a132 a38 rfl) (z_ne a132 a46 rfl) (z_ne a132 a51 rfl)
              have a134 : f1 wk3 = some (.inl (cy 0, 40, .inl gx3)) := k4 _ _ x_wk3 (z_ne x_wk3 x_o rfl)
              have a135 : f10 wk3 = some (.inl (cy 0, 40, .inl gx3)) := k14 _ _ a134 (z_ne a134 a8 rfl) (z_ne a134 a9 rfl)
              have a136 : f18 wk3 = some (.inl (cy 0, 40, .inl gx3)) := (k20 _ (z_ne a135 a17 rfl)).trans a135
              have a137 : f26 wk3 = some (.inl (cy 0, 40, .inl gx3)) := k30 _ _ a136 (z_ne a136 a24 rfl) (z_ne a136 a25 rfl)
              have a138 : fL32 wk3 = some (.inl (cy 0, 40, .inl gx3)) := k33 _ _ a137 (z_ne a137 a28 rfl) (z_ne a137 a29 rfl)
              have a139 : f52 wk3 = some (.inl (cy 0, 40, .inl gx3)) := k61 _ _ a138 (z_ne a138 a38 rfl) (z_ne a138 a46 rfl) (z_ne a138 a51 rfl)
              have hgpf : ∀ j, j < 1 + fI x → gcv (16 * nn + j) = (qshelf x) j := (by obtain rfl : i = t := (by omega); rw [hIx]; exact hgr)
              have hgkp : ∀ i, i < nn → ∀ j, j < 16 → gcv (16 * i + j) = gc (16 * i + j) := hgc9
              have hq : q_shelf nn x = (nI nn, 0, (-1), 0) := by simp [q_shelf, h60, c5, c7, c36]
              exact z_iret C hr rfl hz hS ⟨0, (-1), 0, nl, (nn + 1), nf, nc, lk, ks, gv, gu, (upd gk nn 6), gmv, gcv, (upd gw nn w), (upd gl nn (nI jl_54)), (upd gh nn (zHash ((upd gk nn 6) nn) nn (1 + i) (fun k => gcv (16 * nn + k)) gh)), gt, gy, gq, ge1, gn1, gp1, gs, gx1, gx2, gx3, (va_up ln nn (1 + i)), fz, sq, (by rw [hq]), (by rw [hq]), (by rw [hq]), (by rw [hq]), (by rw [hq]; exact (zEV0 gv).symm), rfl, rfl, (by rw [if_pos (nI_pos' (by omega))]), (by rw [if_pos (nI_pos' (by omega))]; exact z_uv _ _ _), (by rw [if_pos (nI_pos' (by omega)), hIx, show t = i by omega]), (by rw [if_pos (nI_pos' (by omega))]; exact z_uv _ _ _), (by rw [if_pos (nI_pos' (by omega))]; exact z_hs1 pk_us (by rw [hIx, show t = i by omega]) hgpf), ⟨hgkp, fun _ => hgpf⟩, rfl, rfl, rfl, rfl, rfl, rfl, rfl, rfl, rfl, rfl, rfl, rfl, rfl, ⟨fun _ => ⟨jl_54, pq55, rfl, by rw [hIx, show t = i by omega]; exact ⟨pq56, pq57⟩⟩, fun h9 => absurd (nI_pos' (by omega)) h9⟩, ⟨a58, a67, a73, a74, a75, a76, a79, a59, a60, a85, a91, a97, a103, a109, a115, a121, a127, a133, a139, (by omega), hl12, hf6, hc60, hs40, (zMP_new (zMP_keep hMP (fun i9 h9 => by simp only [upd, if_neg (show ¬ i9 = nn by omega)]) hgk9 hgc9) hgm (by rw [pk_us]; exact zMP1_of (by omega) (by decide) (by decide) (by decide))), hgy, hfz, hgs, hME, hlk, (fun i9 h9 => by rw [pk_un (by omega)]; exact hgw i9 (by omega)), hfd, n_wki_wmy, n_wki_wiw, n_wki_wli, n_wki_wha, n_wki_wem, n_wki_wna, n_wki_wpl, n_wmy_wiw, n_wmy_wli, n_wmy_wha, n_wmy_wem, n_wmy_wna, n_wmy_wpl, n_wiw_wli, n_wiw_wha, n_wiw_wem, n_wiw_wna, n_wiw_wpl, n_wli_wha, n_wli_wem, n_wli_wna, n_wli_wpl, n_wha_wem, n_wha_wna, n_wha_wpl, n_wem_wna, n_wem_wpl, n_wna_wpl, n_wk1_wk2, n_wk1_wk3, n_wk2_wk3⟩⟩ (Nat.le_of_ble_eq_true rfl) (Nat.le_of_ble_eq_true rfl) dX8_shelf_83
            · replace c36 : i < t := by rw [hxt] at c36; exact Nat.not_le.mp (fun h => c36 ((nI_leI (by omega) (by omega)).mpr h))
              refine lv_aload_n hx hb dX8_shelf_66 rfl (lv_at hl 0 rfl) ?_
              refine lv_ldc2 (v := (-1)) hx hb C.2.2.2.1 (C.2.2.2.2.1 _ mKX8_98) dX8_shelf_67 ?_
              have a140 : f26 o = some (.inr (8, [.int 0, .int (-1), .int 0, .ref wev, .int (nI nl), .ref wnb, .int (nI nn), .ref wki, .ref wmy, .ref wce, .ref wiw, .ref wli, .ref wha, .ref wwt, .int (nI nf), .ref wfy, .ref wfk, .int (nI nc), .ref wem, .ref wna, .ref wpl, .ref whs, .long lk, .int (nI ks), .ref wk1, .ref wk2, .ref wk3])) := k30 _ _ a21 (z_ne a21 a24 rfl) (z_ne a21 a25 rfl)
              have a141 : fL32 o = some (.inr (8, [.int 0, .int (-1), .int 0, .ref wev, .int (nI nl), .ref wnb, .int (nI nn), .ref wki, .ref wmy, .ref wce, .ref wiw, .ref wli, .ref wha, .ref wwt, .int (nI nf), .ref wfy, .ref wfk, .int (nI nc), .ref wem, .ref wna, .ref wpl, .ref whs, .long lk, .int (nI ks), .ref wk1, .ref wk2, .ref wk3])) := k33 _ _ a140 (z_ne a140 a28 rfl) (z_ne a140 a29 rfl)
              refine z_callVv (As := [.long (-1)]) C hz hS hA hl (k_X8_part l D cy fL32 o wev wnb wki wmy wce wiw wli wha wwt wfy wfk wem wna wpl whs wk1 wk2 wk3 0 (-1) 0 nl nn nf nc lk ks gcv gmv (-1) (1 + i) a141 a34 a35 (by omega) hgm (by omega)) zyX8_part mMX8_127 a141 zl8 rfl rfl (Nat.le_of_ble_eq_true rfl) ⟨Nat.le_of_ble_eq_true rfl, Nat.le_of_ble_eq_true rfl⟩ ⟨Nat.le_of_ble_eq_true rfl, Nat.le_of_ble_eq_true rfl⟩ dX8_shelf_70 (fun  f142 H locs h143 hz hS => ?_)
              obtain ⟨a144, a145, k146⟩ := h143
              refine lv_iinc (v := nI (i + 1)) (lv' := [(3, .int (nI (i + 1))), (0, .ref o), (2, .int x)]) hx hb dX8_shelf_73 hl (k := 2) rfl (nI_1 i) (by decide) rfl (fun ls hl => ?_)
              refine lv_goto (tgt := 61) hx hb dX8_shelf_76 (by decide) ?_
              exact ih (i + 1) (vp_updL gcv (16 * nn + (1 + i)) (-1)) (upd gmv nn (nI ((1 + i) + 1))) _ _ _ _ (by omega) (by omega) pk_us (fun i9 h9 => by rw [pk_un (show i9 ≠ nn by omega)]; exact hgk9 i9 h9) (fun i9 h9 j9 h8 => by rw [pk_uLn (show 16 * i9 + j9 ≠ 16 * nn + (1 + i) by omega)]; exact hgc9 i9 h9 j9 h8) (zshelfM_1 hgr) a144 a145 (by
                    intro b e hb n0 n1
                    have hb4 : fL32 b = some e := k33 b e hb n0 n1
                    have hb5 : f142 b = some e := k146 b e hb4 n0 n1
                    exact hb5) hz hS (lv_sub hl [1, 2, 0] rfl)
        exact lp31 (t - 0 + 1) 0 (vp_updL gc (16 * nn + 0) x.toInt64) (upd (upd gm nn 0) nn (nI (0 + 1))) _ _ _ _ (Nat.lt_succ_self _) (by omega) pk_us (fun i9 h9 => by simp only [upd, if_neg (show ¬ i9 = nn by omega)]) (fun i9 h9 j9 h8 => by simp (disch := omega) only [pk_uLn]) zshelfM_0 a28 a29 (fun b e hb n0 n1 => hb) hz hS (lv_sub hl [1, 3, 0] rfl)
      · refine lv_aload_n hx hb dX8_shelf_29 rfl (lv_at hl 0 rfl) ?_
        refine lv_iconst (v := 5) hx hb dX8_shelf_30 (by decide) ?_
        refine lv_iconst (v := 0) hx hb dX8_shelf_31 (by decide) ?_
        refine lv_iconst (v := 0) hx hb dX8_shelf_32 (by decide) ?_
        have a147 : f1 wev = some (.inl (cy 0, 8, .inl gv)) := k4 _ _ x_wev (z_ne x_wev x_o rfl)
        refine z_callVi (As := [.int 5, .int 0, .int 0]) C hz hS hA hl (k_X8_fails l D cy f1 o wev wnb wki wmy wce wiw wli wha wwt wfy wfk wem wna wpl whs wk1 wk2 wk3 0 (-1) 0 nl nn nf nc lk ks 5 0 0 gv 5 a3 a147 (by decide) (Nat.le_of_ble_eq_true rfl)) zyX8_fails mMX8_135 a3 zl8 rfl rfl (Nat.le_of_ble_eq_true rfl) ⟨Nat.le_of_ble_eq_true rfl, Nat.le_of_ble_eq_true rfl⟩ ⟨Nat.le_of_ble_eq_true rfl, Nat.le_of_ble_eq_true rfl⟩ dX8_shelf_33 (fun r f148 H locs h149 hz hS => ?_)
        obtain ⟨rfl, a150, a151, k152⟩ := h149
        have a153 : f1 wnb = some (.inl (cy 0, 12, .inl gu)) := k4 _ _ x_wnb (z_ne x_wnb x_o rfl)
        have a154 : f148 wnb = some (.inl (cy 0, 12, .inl gu)) := k152 _ _ a153 (z_ne a153 a3 rfl) (z_ne a153 a147 rfl)
        have a155 : f1 wki = some (.inl (cy 0, 60, .inl gk)) := k4 _ _ x_wki (z_ne x_wki x_o rfl)
        have a156 : f148 wki = some (.inl (cy 0, 60, .inl gk)) := k152 _ _ a155 (z_ne a155 a3 rfl) (z_ne a155 a147 rfl)
        have a157 : f1 wmy = some (.inl (cy 0, 60, .inl gm)) := k4 _ _ x_wmy (z_ne x_wmy x_o rfl)
        have a158 : f148 wmy = some (.inl (cy 0, 60, .inl gm)) := k152 _ _ a157 (z_ne a157 a3 rfl) (z_ne a157 a147 rfl)
        have a159 : f1 wce = some (.inl (cy 1, 960, .inr (.inl gc))) := k4 _ _ x_wce (z_ne x_wce x_o rfl)
        have a160 : f148 wce = some (.inl (cy 1, 960, .inr (.inl gc))) := k152 _ _ a159 (z_ne a159 a3 rfl) (z_ne a159 a147 rfl)
        have a161 : f1 wiw = some (.inl (cy 2, 60, .inl gw)) := k4 _ _ x_wiw (z_ne x_wiw x_o rfl)
        have a162 : f148 wiw = some (.inl (cy 2, 60, .inl gw)) := k152 _ _ a161 (z_ne a161 a3 rfl) (z_ne a161 a147 rfl)
        have a163 : f1 wli = some (.inl (cy 0, 60, .inl gl)) := k4 _ _ x_wli (z_ne x_wli x_o rfl)
        have a164 : f148 wli = some (.inl (cy 0, 60, .inl gl)) := k152 _ _ a163 (z_ne a163 a3 rfl) (z_ne a163 a147 rfl)
        have a165 : f1 wha = some (.inl (cy 0, 60, .inl gh)) := k4 _ _ x_wha (z_ne x_wha x_o rfl)
        have a166 : f148 wha = some (.inl (cy 0, 60, .inl gh)) := k152 _ _ a165 (z_ne a165 a3 rfl) (z_ne a165 a147 rfl)
        have a167 : f1 wwt = some (.inl (cy 1, 60, .inr (.inl gt))) := k4 _ _ x_wwt (z_ne x_wwt x_o rfl)
        have a168 : f148 wwt = some (.inl (cy 1, 60, .inr (.inl gt))) := k152 _ _ a167 (z_ne a167 a3 rfl) (z_ne a167 a147 rfl)
        have a169 : f1 wfy = some (.inl (cy 0, 6, .inl gy)) := k4 _ _ x_wfy (z_ne x_wfy x_o rfl)
        have a170 : f148 wfy = some (.inl (cy 0, 6, .inl gy)) := k152 _ _ a169 (z_ne a169 a3 rfl) (z_ne a169 a147 rfl)
        have a171 : f1 wfk = some (.inl (cy 0, 24, .inl gq)) := k4 _ _ x_wfk (z_ne x_wfk x_o rfl)
        have a172 : f148 wfk = some (.inl (cy 0, 24, .inl gq)) := k152 _ _ a171 (z_ne a171 a3 rfl) (z_ne a171 a147 rfl)
        have a173 : f1 wem = some (.inl (cy 0, 60, .inl ge1)) := k4 _ _ x_wem (z_ne x_wem x_o rfl)
        have a174 : f148 wem = some (.inl (cy 0, 60, .inl ge1)) := k152 _ _ a173 (z_ne a173 a3 rfl) (z_ne a173 a147 rfl)
        have a175 : f1 wna = some (.inl (cy 0, 60, .inl gn1)) := k4 _ _ x_wna (z_ne x_wna x_o rfl)
        have a176 : f148 wna = some (.inl (cy 0, 60, .inl gn1)) := k152 _ _ a175 (z_ne a175 a3 rfl) (z_ne a175 a147 rfl)
        have a177 : f1 wpl = some (.inl (cy 0, 60, .inl gp1)) := k4 _ _ x_wpl (z_ne x_wpl x_o rfl)
        have a178 : f148 wpl = some (.inl (cy 0, 60, .inl gp1)) := k152 _ _ a177 (z_ne a177 a3 rfl) (z_ne a177 a147 rfl)
        have a179 : f1 whs = some (.inl (cy 0, 4, .inl gs)) := k4 _ _ x_whs (z_ne x_whs x_o rfl)
        have a180 : f148 whs = some (.inl (cy 0, 4, .inl gs)) := k152 _ _ a179 (z_ne a179 a3 rfl) (z_ne a179 a147 rfl)
        have a181 : f1 wk1 = some (.inl (cy 0, 40, .inl gx1)) := k4 _ _ x_wk1 (z_ne x_wk1 x_o rfl)
        have a182 : f148 wk1 = some (.inl (cy 0, 40, .inl gx1)) := k152 _ _ a181 (z_ne a181 a3 rfl) (z_ne a181 a147 rfl)
        have a183 : f1 wk2 = some (.inl (cy 0, 40, .inl gx2)) := k4 _ _ x_wk2 (z_ne x_wk2 x_o rfl)
        have a184 : f148 wk2 = some (.inl (cy 0, 40, .inl gx2)) := k152 _ _ a183 (z_ne a183 a3 rfl) (z_ne a183 a147 rfl)
        have a185 : f1 wk3 = some (.inl (cy 0, 40, .inl gx3)) := k4 _ _ x_wk3 (z_ne x_wk3 x_o rfl)
        have a186 : f148 wk3 = some (.inl (cy 0, 40, .inl gx3)) := k152 _ _ a185 (z_ne a185 a3 rfl) (z_ne a185 a147 rfl)
        have hq : q_shelf nn x = ((-4), 5, 0, 0) := by simp [q_shelf, h60, c5, c7]
        exact z_iret C hr rfl hz hS ⟨5, 0, 0, nl, nn, nf, nc, lk, ks, (upd gv 5 (gv 5 + 1)), gu, gk, gm, gc, gw, gl, gh, gt, gy, gq, ge1, gn1, gp1, gs, gx1, gx2, gx3, ln, fz, sq, (by rw [hq]), (by rw [hq]), (by rw [hq]), (by rw [hq]), (by rw [hq]; exact (zEV5 gv).symm), rfl, rfl, (by rw [if_neg (by decide)]), (by rw [if_neg (by decide)]), (by rw [if_neg (by decide)]), (by rw [if_neg (by decide)]), (by rw [if_neg (by decide)]), (zGC_no (by decide)), rfl, rfl, rfl, rfl, rfl, rfl, rfl, rfl, rfl, rfl, rfl, rfl, rfl, ⟨fun h9 => absurd h9 (by decide), fun _ => rfl⟩, ⟨a150, a151, a154, a156, a158, a160, a162, a164, a166, a168, a170, a172, a174, a176, a178, a180, a182, a184, a186, hn60, hl12, hf6, hc60, hs40, hMP, hgy, hfz, hgs, hME, hlk, hgw, hfd, n_wki_wmy, n_wki_wiw, n_wki_wli, n_wki_wha, n_wki_wem, n_wki_wna, n_wki_wpl, n_wmy_wiw, n_wmy_wli, n_wmy_wha, n_wmy_wem, n_wmy_wna, n_wmy_wpl, n_wiw_wli, n_wiw_wha, n_wiw_wem, n_wiw_wna, n_wiw_wpl, n_wli_wha, n_wli_wem, n_wli_wna, n_wli_wpl, n_wha_wem, n_wha_wna, n_wha_wpl, n_wem_wna, n_wem_wpl, n_wna_wpl, n_wk1_wk2, n_wk1_wk3, n_wk2_wk3⟩⟩ (Nat.le_of_ble_eq_true rfl) (Nat.le_of_ble_eq_true rfl) dX8_shelf_36
    · replace c6 : (nn = 60) := (nI_eq (a := nn) (b := 60) (by omega) (by omega)).mp c6
      have h60 : ¬ nn < 60 := by omega
      refine lv_bipush (v := (-3)) hx hb dX8_shelf_22 (by decide) ?_
      have a187 : f1 wev = some (.inl (cy 0, 8, .inl gv)) := k4 _ _ x_wev (z_ne x_wev x_o rfl)
      have a188 : f1 wnb = some (.inl (cy 0, 12, .inl gu)) := k4 _ _ x_wnb (z_ne x_wnb x_o rfl)
      have a189 : f1 wki = some (.inl (cy 0, 60, .inl gk)) := k4 _ _ x_wki (z_ne x_wki x_o rfl)
      have a190 : f1 wmy = some (.inl (cy 0, 60, .inl gm)) := k4 _ _ x_wmy (z_ne x_wmy x_o rfl)
      have a191 : f1 wce = some (.inl (cy 1, 960, .inr (.inl gc))) := k4 _ _ x_wce (z_ne x_wce x_o rfl)
      have a192 : f1 wiw = some (.inl (cy 2, 60, .inl gw)) := k4 _ _ x_wiw (z_ne x_wiw x_o rfl)
      have a193 : f1 wli = some (.inl (cy 0, 60, .inl gl)) := k4 _ _ x_wli (z_ne x_wli x_o rfl)
      have a194 : f1 wha = some (.inl (cy 0, 60, .inl gh)) := k4 _ _ x_wha (z_ne x_wha x_o rfl)
      have a195 : f1 wwt = some (.inl (cy 1, 60, .inr (.inl gt))) := k4 _ _ x_wwt (z_ne x_wwt x_o rfl)
      have a196 : f1 wfy = some (.inl (cy 0, 6, .inl gy)) := k4 _ _ x_wfy (z_ne x_wfy x_o rfl)
      have a197 : f1 wfk = some (.inl (cy 0, 24, .inl gq)) := k4 _ _ x_wfk (z_ne x_wfk x_o rfl)
      have a198 : f1 wem = some (.inl (cy 0, 60, .inl ge1)) := k4 _ _ x_wem (z_ne x_wem x_o rfl)
      have a199 : f1 wna = some (.inl (cy 0, 60, .inl gn1)) := k4 _ _ x_wna (z_ne x_wna x_o rfl)
      have a200 : f1 wpl = some (.inl (cy 0, 60, .inl gp1)) := k4 _ _ x_wpl (z_ne x_wpl x_o rfl)
      have a201 : f1 whs = some (.inl (cy 0, 4, .inl gs)) := k4 _ _ x_whs (z_ne x_whs x_o rfl)
      have a202 : f1 wk1 = some (.inl (cy 0, 40, .inl gx1)) := k4 _ _ x_wk1 (z_ne x_wk1 x_o rfl)
      have a203 : f1 wk2 = some (.inl (cy 0, 40, .inl gx2)) := k4 _ _ x_wk2 (z_ne x_wk2 x_o rfl)
      have a204 : f1 wk3 = some (.inl (cy 0, 40, .inl gx3)) := k4 _ _ x_wk3 (z_ne x_wk3 x_o rfl)
      have hq : q_shelf nn x = ((-3), 0, (-1), 0) := by simp [q_shelf, h60, c5]
      exact z_iret C hr rfl hz hS ⟨0, (-1), 0, nl, nn, nf, nc, lk, ks, gv, gu, gk, gm, gc, gw, gl, gh, gt, gy, gq, ge1, gn1, gp1, gs, gx1, gx2, gx3, ln, fz, sq, (by rw [hq]), (by rw [hq]), (by rw [hq]), (by rw [hq]), (by rw [hq]; exact (zEV0 gv).symm), rfl, rfl, (by rw [if_neg (by decide)]), (by rw [if_neg (by decide)]), (by rw [if_neg (by decide)]), (by rw [if_neg (by decide)]), (by rw [if_neg (by decide)]), (zGC_no (by decide)), rfl, rfl, rfl, rfl, rfl, rfl, rfl, rfl, rfl, rfl, rfl, rfl, rfl, ⟨fun h9 => absurd h9 (by decide), fun _ => rfl⟩, ⟨a3, a187, a188, a189, a190, a191, a192, a193, a194, a195, a196, a197, a198, a199, a200, a201, a202, a203, a204, hn60, hl12, hf6, hc60, hs40, hMP, hgy, hfz, hgs, hME, hlk, hgw, hfd, n_wki_wmy, n_wki_wiw, n_wki_wli, n_wki_wha, n_wki_wem, n_wki_wna, n_wki_wpl, n_wmy_wiw, n_wmy_wli, n_wmy_wha, n_wmy_wem, n_wmy_wna, n_wmy_wpl, n_wiw_wli, n_wiw_wha, n_wiw_wem, n_wiw_wna, n_wiw_wpl, n_wli_wha, n_wli_wem, n_wli_wna, n_wli_wpl, n_wha_wem, n_wha_wna, n_wha_wpl, n_wem_wna, n_wem_wpl, n_wna_wpl, n_wk1_wk2, n_wk1_wk3, n_wk2_wk3⟩⟩ (Nat.le_of_ble_eq_true rfl) (Nat.le_of_ble_eq_true rfl) dX8_shelf_24
  · refine lv_bipush (v := (-2)) hx hb dX8_shelf_10 (by decide) ?_
    have a205 : f1 wev = some (.inl (cy 0, 8, .inl gv)) := k4 _ _ x_wev (z_ne x_wev x_o rfl)
    have a206 : f1 wnb = some (.inl (cy 0, 12, .inl gu)) := k4 _ _ x_wnb (z_ne x_wnb x_o rfl)
    have a207 : f1 wki = some (.inl (cy 0, 60, .inl gk)) := k4 _ _ x_wki (z_ne x_wki x_o rfl)
    have a208 : f1 wmy = some (.inl (cy 0, 60, .inl gm)) := k4 _ _ x_wmy (z_ne x_wmy x_o rfl)
    have a209 : f1 wce = some (.inl (cy 1, 960, .inr (.inl gc))) := k4 _ _ x_wce (z_ne x_wce x_o rfl)
    have a210 : f1 wiw = some (.inl (cy 2, 60, .inl gw)) := k4 _ _ x_wiw (z_ne x_wiw x_o rfl)
    have a211 : f1 wli = some (.inl (cy 0, 60, .inl gl)) := k4 _ _ x_wli (z_ne x_wli x_o rfl)
    have a212 : f1 wha = some (.inl (cy 0, 60, .inl gh)) := k4 _ _ x_wha (z_ne x_wha x_o rfl)
    have a213 : f1 wwt = some (.inl (cy 1, 60, .inr (.inl gt))) := k4 _ _ x_wwt (z_ne x_wwt x_o rfl)
    have a214 : f1 wfy = some (.inl (cy 0, 6, .inl gy)) := k4 _ _ x_wfy (z_ne x_wfy x_o rfl)
    have a215 : f1 wfk = some (.inl (cy 0, 24, .inl gq)) := k4 _ _ x_wfk (z_ne x_wfk x_o rfl)
    have a216 : f1 wem = some (.inl (cy 0, 60, .inl ge1)) := k4 _ _ x_wem (z_ne x_wem x_o rfl)
    have a217 : f1 wna = some (.inl (cy 0, 60, .inl gn1)) := k4 _ _ x_wna (z_ne x_wna x_o rfl)
    have a218 : f1 wpl = some (.inl (cy 0, 60, .inl gp1)) := k4 _ _ x_wpl (z_ne x_wpl x_o rfl)
    have a219 : f1 whs = some (.inl (cy 0, 4, .inl gs)) := k4 _ _ x_whs (z_ne x_whs x_o rfl)
    have a220 : f1 wk1 = some (.inl (cy 0, 40, .inl gx1)) := k4 _ _ x_wk1 (z_ne x_wk1 x_o rfl)
    have a221 : f1 wk2 = some (.inl (cy 0, 40, .inl gx2)) := k4 _ _ x_wk2 (z_ne x_wk2 x_o rfl)
    have a222 : f1 wk3 = some (.inl (cy 0, 40, .inl gx3)) := k4 _ _ x_wk3 (z_ne x_wk3 x_o rfl)
    have hq : q_shelf nn x = ((-2), 0, (-1), 0) := by simp [q_shelf, c5]
    exact z_iret C hr rfl hz hS ⟨0, (-1), 0, nl, nn, nf, nc, lk, ks, gv, gu, gk, gm, gc, gw, gl, gh, gt, gy, gq, ge1, gn1, gp1, gs, gx1, gx2, gx3, ln, fz, sq, (by rw [hq]), (by rw [hq]), (by rw [hq]), (by rw [hq]), (by rw [hq]; exact (zEV0 gv).symm), rfl, rfl, (by rw [if_neg (by decide)]), (by rw [if_neg (by decide)]), (by rw [if_neg (by decide)]), (by rw [if_neg (by decide)]), (by rw [if_neg (by decide)]), (zGC_no (by decide)), rfl, rfl, rfl, rfl, rfl, rfl, rfl, rfl, rfl, rfl, rfl, rfl, rfl, ⟨fun h9 => absurd h9 (by decide), fun _ => rfl⟩, ⟨a3, a205, a206, a207, a208, a209, a210, a211, a212, a213, a214, a215, a216, a217, a218, a219, a220, a221, a222, hn60, hl12, hf6, hc60, hs40, hMP, hgy, hfz, hgs, hME, hlk, hgw, hfd, n_wki_wmy, n_wki_wiw, n_wki_wli, n_wki_wha, n_wki_wem, n_wki_wna, n_wki_wpl, n_wmy_wiw, n_wmy_wli, n_wmy_wha, n_wmy_wem, n_wmy_wna, n_wmy_wpl, n_wiw_wli, n_wiw_wha, n_wiw_wem, n_wiw_wna, n_wiw_wpl, n_wli_wha, n_wli_wem, n_wli_wna, n_wli_wpl, n_wha_wem, n_wha_wna, n_wha_wpl, n_wem_wna, n_wem_wpl, n_wna_wpl, n_wk1_wk2, n_wk1_wk3, n_wk2_wk3⟩⟩ (Nat.le_of_ble_eq_true rfl) (Nat.le_of_ble_eq_true rfl) dX8_shelf_12
