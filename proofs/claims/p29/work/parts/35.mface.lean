abbrev rmX8_tagOf : Room := { frames := 0, cells := 0, slots := 0, locals := 0 }
set_option maxHeartbeats 4000000 in
set_option maxRecDepth 100000 in
theorem k_X8_tagOf (l : Launch) (D : va_G) (cy : Nat → ClassId) (f : zM) (o : Nat) (wev : Nat) (wnb : Nat) (wki : Nat) (wmy : Nat) (wce : Nat) (wiw : Nat) (wli : Nat) (wha : Nat) (wwt : Nat) (wfy : Nat) (wfk : Nat) (wem : Nat) (wna : Nat) (wpl : Nat) (whs : Nat) (wk1 : Nat) (wk2 : Nat) (wk3 : Nat) (u1 : Int32) (u2 : Int32) (u3 : Int32) (nl : Nat) (nn : Nat) (nf : Nat) (nc : Nat) (lk : Int64) (ks : Nat) (gk : Nat → Int32) (gy : Nat → Int32) (gq : Nat → Int32) (jf : Nat) (ja : Nat) (z : Nat) (p0 : f o = some (.inr (8, [.int u1, .int u2, .int u3, .ref wev, .int (nI nl), .ref wnb, .int (nI nn), .ref wki, .ref wmy, .ref wce, .ref wiw, .ref wli, .ref wha, .ref wwt, .int (nI nf), .ref wfy, .ref wfk, .int (nI nc), .ref wem, .ref wna, .ref wpl, .ref whs, .long lk, .int (nI ks), .ref wk1, .ref wk2, .ref wk3]))) (p1 : f wki = some (.inl (cy 0, 60, .inl gk))) (p2 : f wfy = some (.inl (cy 0, 6, .inl gy))) (p3 : f wfk = some (.inl (cy 0, 24, .inl gq)))  (hjf : jf < 6) (hja : ja < 60) (hgz : gy jf = nI z) (hz4 : z ≤ 4) (hds : ∀ a, a < z → ∀ b, b < a → ¬ gq (4 * jf + a) = gq (4 * jf + b)) : zCi l D cy yX8_tagOf cX8_tagOf 7 (Option.some Jvm.ClassFile.FieldType.int) rmX8_tagOf [.ref o, .int (nI jf), .int (nI ja)] f (fun (r : Int32) (f1 : zM) => r = ((zTG (fun j => gq (4 * jf + j)) (gk ja) z).1) ∧ (∀ (b : Nat) (e : va_E), f b = some e → f1 b = some e)) := by
  intro sz
  refine z_body (by decide +kernel) (Nat.le_of_ble_eq_true rfl) ?_
  intro p e s m below meth c ls C hr hin hsz hz hl
  subst hsz
  have hx := C.1
  have hb := C.2.1
  have hA : ∀ q, s.heap.size ≤ q → zA f s.heap.size q := fun q h => Or.inr h
  have hS : va_S (zA f s.heap.size) s.heap s.heap [] := va_S.rf
  have hl : lv_has ls 7 [(0, .ref o), (1, .int (nI jf)), (2, .int (nI ja))] := hl
  refine lv_iconst (v := (-1)) hx hb dX8_tagOf_0 (by decide) ?_
  refine lv_istore_n (lv' := [(3, .int (-1)), (0, .ref o), (1, .int (nI jf)), (2, .int (nI ja))]) hx hb dX8_tagOf_1 rfl hl (by decide) rfl (fun ls hl => ?_)
  refine lv_iconst (v := 0) hx hb dX8_tagOf_2 (by decide) ?_
  refine lv_istore (lv' := [(4, .int 0), (3, .int (-1)), (0, .ref o), (1, .int (nI jf)), (2, .int (nI ja))]) hx hb dX8_tagOf_3 hl (by decide) rfl (fun ls hl => ?_)
  refine lv_iconst (v := 0) hx hb dX8_tagOf_5 (by decide) ?_
  refine lv_istore (lv' := [(5, .int 0), (4, .int 0), (3, .int (-1)), (0, .ref o), (1, .int (nI jf)), (2, .int (nI ja))]) hx hb dX8_tagOf_6 hl (by decide) rfl (fun ls hl => ?_)
  have lp1 : ∀ (n : Nat) (tg : Int32) (ow : Int32) (kx : Nat) (fL2 : zM) (H : Heap) (locs : List Loc) (ls : Array Slot), (z - kx) < n → (kx ≤ z) → (zTR (fun j => gq (4 * jf + j)) (gk ja) kx = (tg, ow)) → (∀ (b : Nat) (e : va_E), f b = some e → fL2 b = some e) → zH D (zA f s.heap.size) fL2 H → va_S (zA f s.heap.size) s.heap H locs → lv_has ls 7 [(0, .ref o), (1, .int (nI jf)), (2, .int (nI ja)), (3, .int tg), (4, .int ow), (5, .int (nI kx))] → W p l e rmX8_tagOf s m ([.ref o, .int (nI jf), .int (nI ja)] : List Value).toArray below meth c H locs 0 0 (MQ below (va_Qi (fun (r : Int32) (f1 : zM) => r = ((zTG (fun j => gq (4 * jf + j)) (gk ja) z).1) ∧ (∀ (b : Nat) (e : va_E), f b = some e → f1 b = some e)) (zB D f s.heap.size) (zA f s.heap.size)) ([.ref o, .int (nI jf), .int (nI ja)] : List Value).toArray s rmX8_tagOf.cells rmX8_tagOf.slots (zA f s.heap.size)) (F0 m 8 ls []) := by
    intro n
    induction n with
    | zero => intro tg ow kx fL2 H locs ls hmz; exact absurd hmz (Nat.not_lt_zero _)
    | succ n ih =>
      intro tg ow kx fL2 H locs ls hmz hk htg  k3 hz hS hl
      refine lv_iload hx hb dX8_tagOf_8 (lv_at hl 5 rfl) ?_
      refine lv_aload_n hx hb dX8_tagOf_10 rfl (lv_at hl 0 rfl) ?_
      have a4 : fL2 o = some (.inr (8, [.int u1, .int u2, .int u3, .ref wev, .int (nI nl), .ref wnb, .int (nI nn), .ref wki, .ref wmy, .ref wce, .ref wiw, .ref wli, .ref wha, .ref wwt, .int (nI nf), .ref wfy, .ref wfk, .int (nI nc), .ref wem, .ref wna, .ref wpl, .ref whs, .long lk, .int (nI ks), .ref wk1, .ref wk2, .ref wk3])) := k3 _ _ p0 
      refine z_get (v := .ref wfy) C hz a4 zl8 mFX8_43 (by decide) rfl dX8_tagOf_11 ?_
      refine lv_iload_n hx hb dX8_tagOf_14 rfl (lv_at hl 1 rfl) ?_
      have a5 : fL2 wfy = some (.inl (cy 0, 6, .inl gy)) := k3 _ _ p2 
      refine z_iald jf C hz a5 rfl hjf (by omega) dX8_tagOf_15 ?_
      refine lv_topi (fun y6 e7 => ?_)
      obtain rfl : y6 = nI z := e7.trans hgz
      refine lv_icmp_ge (tgt := 82) hx hb dX8_tagOf_16 (by decide) (fun c8 => ?_) (fun c8 => ?_)
      · replace c8 : (z ≤ kx) := (nI_leI (a := z) (b := kx) (by omega) (by omega)).mp c8
        refine lv_iload_n hx hb dX8_tagOf_82 rfl (lv_at hl 3 rfl) ?_
        exact z_iret C hr rfl hz hS ⟨(by obtain rfl : kx = z := (by omega); exact (congrArg Prod.fst htg).symm.trans (zTR_TG hds).1), (by
              intro b e hb 
              have hb0 : fL2 b = some e := k3 b e hb 
              exact hb0)⟩ (Nat.le_of_ble_eq_true rfl) (Nat.le_of_ble_eq_true rfl) dX8_tagOf_83
      · replace c8 : ¬ (z ≤ kx) := fun h => c8 ((nI_leI (a := z) (b := kx) (by omega) (by omega)).mpr h)
        refine lv_aload_n hx hb dX8_tagOf_19 rfl (lv_at hl 0 rfl) ?_
        refine z_get (v := .ref wfk) C hz a4 zl8 mFX8_46 (by decide) rfl dX8_tagOf_20 ?_
        refine lv_iconst (v := 4) hx hb dX8_tagOf_23 (by decide) ?_
        refine lv_iload_n hx hb dX8_tagOf_24 rfl (lv_at hl 1 rfl) ?_
        refine lv_imul hx hb dX8_tagOf_25 ?_
        refine lv_iload hx hb dX8_tagOf_26 (lv_at hl 5 rfl) ?_
        refine lv_iadd hx hb dX8_tagOf_28 ?_
        have a9 : fL2 wfk = some (.inl (cy 0, 24, .inl gq)) := k3 _ _ p3 
        refine z_iald (4 * jf + kx) C hz a9 (z_c4 jf kx) (by omega) (by omega) dX8_tagOf_29 ?_
        refine lv_istore (lv' := [(6, .int (gq (4 * jf + kx))), (0, .ref o), (1, .int (nI jf)), (2, .int (nI ja)), (3, .int tg), (4, .int ow), (5, .int (nI kx))]) hx hb dX8_tagOf_30 hl (by decide) rfl (fun ls hl => ?_)
        refine lv_iload hx hb dX8_tagOf_32 (lv_at hl 0 rfl) ?_
        refine lv_aload_n hx hb dX8_tagOf_34 rfl (lv_at hl 1 rfl) ?_
        refine z_get (v := .ref wki) C hz a4 zl8 mFX8_20 (by decide) rfl dX8_tagOf_35 ?_
        refine lv_iload_n hx hb dX8_tagOf_38 rfl (lv_at hl 3 rfl) ?_
        have a10 : fL2 wki = some (.inl (cy 0, 60, .inl gk)) := k3 _ _ p1 
        refine z_iald ja C hz a10 rfl hja (by omega) dX8_tagOf_39 ?_
        refine lv_icmp_ne (tgt := 52) hx hb dX8_tagOf_40 (by decide) (fun c11 => ?_) (fun c11 => ?_)
        · refine lv_iload hx hb dX8_tagOf_52 (lv_at hl 5 rfl) ?_
          refine lv_if_ne (tgt := 76) hx hb dX8_tagOf_54 (by decide) (fun c12 => ?_) (fun c12 => ?_)
          · refine lv_iinc (v := nI (kx + 1)) (lv' := [(5, .int (nI (kx + 1))), (6, .int (gq (4 * jf + kx))), (0, .ref o), (1, .int (nI jf)), (2, .int (nI ja)), (3, .int tg), (4, .int ow)]) hx hb dX8_tagOf_76 hl (k := 6) rfl (nI_1 kx) (by decide) rfl (fun ls hl => ?_)
            refine lv_goto (tgt := 8) hx hb dX8_tagOf_79 (by decide) ?_
            exact ih tg ow (kx + 1) _ _ _ _ (by omega) (by omega) (zTR_n0 htg c11 c12)  (by
                  intro b e hb 
                  have hb0 : fL2 b = some e := k3 b e hb 
                  exact hb0) hz hS (lv_sub hl [2, 3, 4, 5, 6, 0] rfl)
          · refine lv_iload hx hb dX8_tagOf_57 (lv_at hl 0 rfl) ?_
            refine lv_iconst (v := 1) hx hb dX8_tagOf_59 (by decide) ?_
            refine lv_icmp_ne (tgt := 76) hx hb dX8_tagOf_60 (by decide) (fun c13 => ?_) (fun c13 => ?_)
            · refine lv_iinc (v := nI (kx + 1)) (lv' := [(5, .int (nI (kx + 1))), (6, .int (gq (4 * jf + kx))), (0, .ref o), (1, .int (nI jf)), (2, .int (nI ja)), (3, .int tg), (4, .int ow)]) hx hb dX8_tagOf_76 hl (k := 6) rfl (nI_1 kx) (by decide) rfl (fun ls hl => ?_)
              refine lv_goto (tgt := 8) hx hb dX8_tagOf_79 (by decide) ?_
              exact ih tg ow (kx + 1) _ _ _ _ (by omega) (by omega) (zTR_n1 htg c11 c12 c13)  (by
                    intro b e hb 
                    have hb0 : fL2 b = some e := k3 b e hb 
                    exact hb0) hz hS (lv_sub hl [2, 3, 4, 5, 6, 0] rfl)
            · refine lv_aload_n hx hb dX8_tagOf_63 rfl (lv_at hl 1 rfl) ?_
              refine z_get (v := .ref wki) C hz a4 zl8 mFX8_20 (by decide) rfl dX8_tagOf_64 ?_
              refine lv_iload_n hx hb dX8_tagOf_67 rfl (lv_at hl 3 rfl) ?_
              refine z_iald ja C hz a10 rfl hja (by omega) dX8_tagOf_68 ?_
              refine lv_iconst (v := 2) hx hb dX8_tagOf_69 (by decide) ?_
              refine lv_icmp_ne (tgt := 76) hx hb dX8_tagOf_70 (by decide) (fun c14 => ?_) (fun c14 => ?_)
              · refine lv_iinc (v := nI (kx + 1)) (lv' := [(5, .int (nI (kx + 1))), (6, .int (gq (4 * jf + kx))), (0, .ref o), (1, .int (nI jf)), (2, .int (nI ja)), (3, .int tg), (4, .int ow)]) hx hb dX8_tagOf_76 hl (k := 6) rfl (nI_1 kx) (by decide) rfl (fun ls hl => ?_)
                refine lv_goto (tgt := 8) hx hb dX8_tagOf_79 (by decide) ?_
                exact ih tg ow (kx + 1) _ _ _ _ (by omega) (by omega) (zTR_n2 htg c11 c12 c13 c14)  (by
                      intro b e hb 
                      have hb0 : fL2 b = some e := k3 b e hb 
                      exact hb0) hz hS (lv_sub hl [2, 3, 4, 5, 6, 0] rfl)
              · refine lv_iload hx hb dX8_tagOf_73 (lv_at hl 6 rfl) ?_
                refine lv_istore_n (lv' := [(3, .int (nI kx)), (6, .int (gq (4 * jf + kx))), (0, .ref o), (1, .int (nI jf)), (2, .int (nI ja)), (4, .int ow), (5, .int (nI kx))]) hx hb dX8_tagOf_75 rfl hl (by decide) rfl (fun ls hl => ?_)
                refine lv_iinc (v := nI (kx + 1)) (lv' := [(5, .int (nI (kx + 1))), (3, .int (nI kx)), (6, .int (gq (4 * jf + kx))), (0, .ref o), (1, .int (nI jf)), (2, .int (nI ja)), (4, .int ow)]) hx hb dX8_tagOf_76 hl (k := 6) rfl (nI_1 kx) (by decide) rfl (fun ls hl => ?_)
                refine lv_goto (tgt := 8) hx hb dX8_tagOf_79 (by decide) ?_
                exact ih (nI kx) ow (kx + 1) _ _ _ _ (by omega) (by omega) (zTR_of htg c11 c12 c13 c14)  (by
                      intro b e hb 
                      have hb0 : fL2 b = some e := k3 b e hb 
                      exact hb0) hz hS (lv_sub hl [3, 4, 5, 1, 6, 0] rfl)
        · refine lv_iload hx hb dX8_tagOf_43 (lv_at hl 6 rfl) ?_
          refine lv_istore_n (lv' := [(3, .int (nI kx)), (6, .int (gq (4 * jf + kx))), (0, .ref o), (1, .int (nI jf)), (2, .int (nI ja)), (4, .int ow), (5, .int (nI kx))]) hx hb dX8_tagOf_45 rfl hl (by decide) rfl (fun ls hl => ?_)
          refine lv_iconst (v := 1) hx hb dX8_tagOf_46 (by decide) ?_
          refine lv_istore (lv' := [(4, .int 1), (3, .int (nI kx)), (6, .int (gq (4 * jf + kx))), (0, .ref o), (1, .int (nI jf)), (2, .int (nI ja)), (5, .int (nI kx))]) hx hb dX8_tagOf_47 hl (by decide) rfl (fun ls hl => ?_)
          refine lv_goto (tgt := 76) hx hb dX8_tagOf_49 (by decide) ?_
          refine lv_iinc (v := nI (kx + 1)) (lv' := [(5, .int (nI (kx + 1))), (4, .int 1), (3, .int (nI kx)), (6, .int (gq (4 * jf + kx))), (0, .ref o), (1, .int (nI jf)), (2, .int (nI ja))]) hx hb dX8_tagOf_76 hl (k := 6) rfl (nI_1 kx) (by decide) rfl (fun ls hl => ?_)
          refine lv_goto (tgt := 8) hx hb dX8_tagOf_79 (by decide) ?_
          exact ih (nI kx) 1 (kx + 1) _ _ _ _ (by omega) (by omega) (zTR_own htg c11)  (by
                intro b e hb 
                have hb0 : fL2 b = some e := k3 b e hb 
                exact hb0) hz hS (lv_sub hl [4, 5, 6, 2, 1, 0] rfl)
  exact lp1 (z - 0 + 1) (-1) 0 0 _ _ _ _ (Nat.lt_succ_self _) (by omega) rfl  (fun b e hb => hb) hz hS (lv_sub hl [3, 4, 5, 2, 1, 0] rfl)
abbrev rmX8_tag : Room := { frames := 1, cells := 0, slots := 0, locals := 26 }
set_option maxHeartbeats 4000000 in
set_option maxRecDepth 100000 in
theorem k_X8_tag (l : Launch) (D : va_G) (cy : Nat → ClassId) (f : zM) (o : Nat) (wev : Nat) (wnb : Nat) (wki : Nat) (wmy : Nat) (wce : Nat) (wiw : Nat) (wli : Nat) (wha : Nat) (wwt : Nat) (wfy : Nat) (wfk : Nat) (wem : Nat) (wna : Nat) (wpl : Nat) (whs : Nat) (wk1 : Nat) (wk2 : Nat) (wk3 : Nat) (u1 : Int32) (u2 : Int32) (u3 : Int32) (nl : Nat) (nn : Nat) (nf : Nat) (nc : Nat) (lk : Int64) (ks : Nat) (gv : Nat → Int32) (gu : Nat → Int32) (gk : Nat → Int32) (gm : Nat → Int32) (gc : Nat → Int64) (gw : Nat → Int32) (gl : Nat → Int32) (gh : Nat → Int32) (gt : Nat → Int64) (gy : Nat → Int32) (gq : Nat → Int32) (ge1 : Nat → Int32) (gn1 : Nat → Int32) (gp1 : Nat → Int32) (gs : Nat → Int32) (gx1 : Nat → Int32) (gx2 : Nat → Int32) (gx3 : Nat → Int32) (ln : Nat → Nat) (fz : Nat → Nat) (sq : Nat → Nat) (x : Int32) (y : Int32)    (hI : zIM cy f o wev wnb wki wmy wce wiw wli wha wwt wfy wfk wem wna wpl whs wk1 wk2 wk3 u1 u2 u3 nl nn nf nc lk ks gv gu gk gm gc gw gl gh gt gy gq ge1 gn1 gp1 gs gx1 gx2 gx3 ln fz sq) : zCi l D cy yX8_tag cX8_tag 3 (Option.some Jvm.ClassFile.FieldType.int) rmX8_tag [.ref o, .int x, .int y] f (fun (r : Int32) (f1 : zM) => ∃ (u11 : Int32) (u21 : Int32) (u31 : Int32) (nl1 : Nat) (nn1 : Nat) (nf1 : Nat) (nc1 : Nat) (lk1 : Int64) (ks1 : Nat) (gv1 : Nat → Int32) (gu1 : Nat → Int32) (gk1 : Nat → Int32) (gm1 : Nat → Int32) (gc1 : Nat → Int64) (gw1 : Nat → Int32) (gl1 : Nat → Int32) (gh1 : Nat → Int32) (gt1 : Nat → Int64) (gy1 : Nat → Int32) (gq1 : Nat → Int32) (ge11 : Nat → Int32) (gn11 : Nat → Int32) (gp11 : Nat → Int32) (gs1 : Nat → Int32) (gx11 : Nat → Int32) (gx21 : Nat → Int32) (gx31 : Nat → Int32) (ln1 : Nat → Nat) (fz1 : Nat → Nat) (sq1 : Nat → Nat), r = (q_tag nf fz (fun i j => gq (4 * i + j)) nn gk x y) ∧ (u11 = u1) ∧ (u21 = u2) ∧ (u31 = u3) ∧ (gv1 = gv) ∧ (nl1 = nl) ∧ (gu1 = gu) ∧ (nn1 = nn) ∧ (gk1 = gk) ∧ (ln1 = ln) ∧ (gw1 = gw) ∧ (gh1 = gh) ∧ (gc1 = gc) ∧ (nf1 = nf) ∧ (fz1 = fz) ∧ (gq1 = gq) ∧ (nc1 = nc) ∧ (ge11 = ge1) ∧ (gn11 = gn1) ∧ (gp11 = gp1) ∧ (sq1 = sq) ∧ (ks1 = ks) ∧ (gx11 = gx1) ∧ (gx21 = gx2) ∧ (gx31 = gx3) ∧ (lk1 = lk) ∧ zIM cy f1 o wev wnb wki wmy wce wiw wli wha wwt wfy wfk wem wna wpl whs wk1 wk2 wk3 u11 u21 u31 nl1 nn1 nf1 nc1 lk1 ks1 gv1 gu1 gk1 gm1 gc1 gw1 gl1 gh1 gt1 gy1 gq1 ge11 gn11 gp11 gs1 gx11 gx21 gx31 ln1 fz1 sq1) := by
  intro sz
  refine z_body (by decide +kernel) (Nat.le_of_ble_eq_true rfl) ?_
  intro p e s m below meth c ls C hr hin hsz hz hl
  subst hsz
  have hx := C.1
  have hb := C.2.1
  have hA : ∀ q, s.heap.size ≤ q → zA f s.heap.size q := fun q h => Or.inr h
  have hS : va_S (zA f s.heap.size) s.heap s.heap [] := va_S.rf
  have hl : lv_has ls 3 [(0, .ref o), (1, .int x), (2, .int y)] := hl
  obtain ⟨x_o, x_wev, x_wnb, x_wki, x_wmy, x_wce, x_wiw, x_wli, x_wha, x_wwt, x_wfy, x_wfk, x_wem, x_wna, x_wpl, x_whs, x_wk1, x_wk2, x_wk3, hn60, hl12, hf6, hc60, hs40, hMP, hgy, hfz, hgs, hME, hlk, hgw, hfd, n_wki_wmy, n_wki_wiw, n_wki_wli, n_wki_wha, n_wki_wem, n_wki_wna, n_wki_wpl, n_wmy_wiw, n_wmy_wli, n_wmy_wha, n_wmy_wem, n_wmy_wna, n_wmy_wpl, n_wiw_wli, n_wiw_wha, n_wiw_wem, n_wiw_wna, n_wiw_wpl, n_wli_wha, n_wli_wem, n_wli_wna, n_wli_wpl, n_wha_wem, n_wha_wna, n_wha_wpl, n_wem_wna, n_wem_wpl, n_wna_wpl, n_wk1_wk2, n_wk1_wk3, n_wk2_wk3⟩ := id hI
  refine lv_iload_n hx hb dX8_tag_0 rfl (lv_at hl 1 rfl) ?_
  refine lv_if_lt (tgt := 20) hx hb dX8_tag_1 (by decide) (fun c1 => ?_) (fun c1 => ?_)
  · have hFf : isF nf x = false := isF_lt c1
    refine lv_bipush (v := (-2)) hx hb dX8_tag_20 (by decide) ?_
    refine lv_goto (tgt := 31) hx hb dX8_tag_22 (by decide) ?_
    exact z_iret C hr rfl hz hS ⟨u1, u2, u3, nl, nn, nf, nc, lk, ks, gv, gu, gk, gm, gc, gw, gl, gh, gt, gy, gq, ge1, gn1, gp1, gs, gx1, gx2, gx3, ln, fz, sq, (by simp [q_tag, hFf, c1]), rfl, rfl, rfl, rfl, rfl, rfl, rfl, rfl, rfl, rfl, rfl, rfl, rfl, rfl, rfl, rfl, rfl, rfl, rfl, rfl, rfl, rfl, rfl, rfl, rfl, ⟨x_o, x_wev, x_wnb, x_wki, x_wmy, x_wce, x_wiw, x_wli, x_wha, x_wwt, x_wfy, x_wfk, x_wem, x_wna, x_wpl, x_whs, x_wk1, x_wk2, x_wk3, hn60, hl12, hf6, hc60, hs40, hMP, hgy, hfz, hgs, hME, hlk, hgw, hfd, n_wki_wmy, n_wki_wiw, n_wki_wli, n_wki_wha, n_wki_wem, n_wki_wna, n_wki_wpl, n_wmy_wiw, n_wmy_wli, n_wmy_wha, n_wmy_wem, n_wmy_wna, n_wmy_wpl, n_wiw_wli, n_wiw_wha, n_wiw_wem, n_wiw_wna, n_wiw_wpl, n_wli_wha, n_wli_wem, n_wli_wna, n_wli_wpl, n_wha_wem, n_wha_wna, n_wha_wpl, n_wem_wna, n_wem_wpl, n_wna_wpl, n_wk1_wk2, n_wk1_wk3, n_wk2_wk3⟩⟩ (Nat.le_of_ble_eq_true rfl) (Nat.le_of_ble_eq_true rfl) dX8_tag_31
  · refine lv_iload_n hx hb dX8_tag_4 rfl (lv_at hl 1 rfl) ?_
    refine lv_aload_n hx hb dX8_tag_5 rfl (lv_at hl 0 rfl) ?_
    refine z_get (v := .int (nI nf)) C hz x_o zl8 mFX8_187 (by decide) rfl dX8_tag_6 ?_
    refine lv_icmp_ge (tgt := 20) hx hb dX8_tag_9 (by decide) (fun c2 => ?_) (fun c2 => ?_)
    · have hFf : isF nf x = false := isF_ge c2
      refine lv_bipush (v := (-2)) hx hb dX8_tag_20 (by decide) ?_
      refine lv_goto (tgt := 31) hx hb dX8_tag_22 (by decide) ?_
      exact z_iret C hr rfl hz hS ⟨u1, u2, u3, nl, nn, nf, nc, lk, ks, gv, gu, gk, gm, gc, gw, gl, gh, gt, gy, gq, ge1, gn1, gp1, gs, gx1, gx2, gx3, ln, fz, sq, (by simp [q_tag, hFf, c1, c2]), rfl, rfl, rfl, rfl, rfl, rfl, rfl, rfl, rfl, rfl, rfl, rfl, rfl, rfl, rfl, rfl, rfl, rfl, rfl, rfl, rfl, rfl, rfl, rfl, rfl, ⟨x_o, x_wev, x_wnb, x_wki, x_wmy, x_wce, x_wiw, x_wli, x_wha, x_wwt, x_wfy, x_wfk, x_wem, x_wna, x_wpl, x_whs, x_wk1, x_wk2, x_wk3, hn60, hl12, hf6, hc60, hs40, hMP, hgy, hfz, hgs, hME, hlk, hgw, hfd, n_wki_wmy, n_wki_wiw, n_wki_wli, n_wki_wha, n_wki_wem, n_wki_wna, n_wki_wpl, n_wmy_wiw, n_wmy_wli, n_wmy_wha, n_wmy_wem, n_wmy_wna, n_wmy_wpl, n_wiw_wli, n_wiw_wha, n_wiw_wem, n_wiw_wna, n_wiw_wpl, n_wli_wha, n_wli_wem, n_wli_wna, n_wli_wpl, n_wha_wem, n_wha_wna, n_wha_wpl, n_wem_wna, n_wem_wpl, n_wna_wpl, n_wk1_wk2, n_wk1_wk3, n_wk2_wk3⟩⟩ (Nat.le_of_ble_eq_true rfl) (Nat.le_of_ble_eq_true rfl) dX8_tag_31
    · obtain ⟨jf, hjf, hxf⟩ := z_ixl c1 c2 (by omega)
      have hFf : isF nf x = true := isF_t (by omega) hjf hxf
      have hIf : fI x = jf := fI_of (by omega) hxf
      refine lv_aload_n hx hb dX8_tag_12 rfl (lv_at hl 0 rfl) ?_
      refine lv_iload_n hx hb dX8_tag_13 rfl (lv_at hl 2 rfl) ?_
      rcases z_findi y nn with ⟨ja, hja, hva⟩ | hva
      · have hFa : isF nn y = true := isF_t hn60 hja hva
        have hIa : fI y = ja := fI_of (by omega) hva
        have hNa : ¬ y = (-1) := by rw [hva]; exact z_nim1 (by omega)
        refine z_callVi (As := [.int y]) C hz hS hA hl (k_X8_isFigure_A l D cy f o wev wnb wki wmy wce wiw wli wha wwt wfy wfk wem wna wpl whs wk1 wk2 wk3 u1 u2 u3 nl nn nf nc lk ks y ja x_o hn60 hva hja) zyX8_isFigure mMX8_139 x_o zl8 rfl rfl (Nat.le_of_ble_eq_true rfl) ⟨Nat.le_of_ble_eq_true rfl, Nat.le_of_ble_eq_true rfl⟩ ⟨Nat.le_of_ble_eq_true rfl, Nat.le_of_ble_eq_true rfl⟩ dX8_tag_14 (fun r f3 H locs h4 hz hS => ?_)
        obtain ⟨rfl, k5⟩ := h4
        refine lv_if_ne (tgt := 25) hx hb dX8_tag_17 (by decide) (fun c6 => ?_) (fun c6 => ?_)
        rotate_left
        · exact absurd c6 (by decide)
        refine lv_aload_n hx hb dX8_tag_25 rfl (lv_at hl 0 rfl) ?_
        refine lv_iload_n hx hb dX8_tag_26 rfl (lv_at hl 1 rfl) ?_
        refine lv_topi (fun y7 e8 => ?_)
        obtain rfl : y7 = nI jf := e8.trans hxf
        refine lv_iload_n hx hb dX8_tag_27 rfl (lv_at hl 2 rfl) ?_
        refine lv_topi (fun y9 e10 => ?_)
        obtain rfl : y9 = nI ja := e10.trans hva
        have a11 : f3 o = some (.inr (8, [.int u1, .int u2, .int u3, .ref wev, .int (nI nl), .ref wnb, .int (nI nn), .ref wki, .ref wmy, .ref wce, .ref wiw, .ref wli, .ref wha, .ref wwt, .int (nI nf), .ref wfy, .ref wfk, .int (nI nc), .ref wem, .ref wna, .ref wpl, .ref whs, .long lk, .int (nI ks), .ref wk1, .ref wk2, .ref wk3])) := k5 _ _ x_o 
        have a12 : f3 wki = some (.inl (cy 0, 60, .inl gk)) := k5 _ _ x_wki 
        have a13 : f3 wfy = some (.inl (cy 0, 6, .inl gy)) := k5 _ _ x_wfy 
        have a14 : f3 wfk = some (.inl (cy 0, 24, .inl gq)) := k5 _ _ x_wfk 
        refine z_callVi (As := [.int (nI jf), .int (nI ja)]) C hz hS hA hl (k_X8_tagOf l D cy f3 o wev wnb wki wmy wce wiw wli wha wwt wfy wfk wem wna wpl whs wk1 wk2 wk3 u1 u2 u3 nl nn nf nc lk ks gk gy gq jf ja (fz jf) a11 a12 a13 a14 (by omega) (by omega) (hgy jf hjf) (hfz jf hjf) (hfd jf hjf)) zyX8_tagOf mMX8_190 a11 zl8 rfl rfl (Nat.le_of_ble_eq_true rfl) ⟨Nat.le_of_ble_eq_true rfl, Nat.le_of_ble_eq_true rfl⟩ ⟨Nat.le_of_ble_eq_true rfl, Nat.le_of_ble_eq_true rfl⟩ dX8_tag_28 (fun r f15 H locs h16 hz hS => ?_)
        obtain ⟨rfl, k17⟩ := h16
        have a18 : f15 o = some (.inr (8, [.int u1, .int u2, .int u3, .ref wev, .int (nI nl), .ref wnb, .int (nI nn), .ref wki, .ref wmy, .ref wce, .ref wiw, .ref wli, .ref wha, .ref wwt, .int (nI nf), .ref wfy, .ref wfk, .int (nI nc), .ref wem, .ref wna, .ref wpl, .ref whs, .long lk, .int (nI ks), .ref wk1, .ref wk2, .ref wk3])) := k17 _ _ a11 
        have a19 : f3 wev = some (.inl (cy 0, 8, .inl gv)) := k5 _ _ x_wev 
        have a20 : f15 wev = some (.inl (cy 0, 8, .inl gv)) := k17 _ _ a19 
        have a21 : f3 wnb = some (.inl (cy 0, 12, .inl gu)) := k5 _ _ x_wnb 
        have a22 : f15 wnb = some (.inl (cy 0, 12, .inl gu)) := k17 _ _ a21 
        have a23 : f15 wki = some (.inl (cy 0, 60, .inl gk)) := k17 _ _ a12 
        have a24 : f3 wmy = some (.inl (cy 0, 60, .inl gm)) := k5 _ _ x_wmy 
        have a25 : f15 wmy = some (.inl (cy 0, 60, .inl gm)) := k17 _ _ a24 
        have a26 : f3 wce = some (.inl (cy 1, 960, .inr (.inl gc))) := k5 _ _ x_wce 
        have a27 : f15 wce = some (.inl (cy 1, 960, .inr (.inl gc))) := k17 _ _ a26 
        have a28 : f3 wiw = some (.inl (cy 2, 60, .inl gw)) := k5 _ _ x_wiw 
        have a29 : f15 wiw = some (.inl (cy 2, 60, .inl gw)) := k17 _ _ a28 
        have a30 : f3 wli = some (.inl (cy 0, 60, .inl gl)) := k5 _ _ x_wli 
        have a31 : f15 wli = some (.inl (cy 0, 60, .inl gl)) := k17 _ _ a30 
        have a32 : f3 wha = some (.inl (cy 0, 60, .inl gh)) := k5 _ _ x_wha 
        have a33 : f15 wha = some (.inl (cy 0, 60, .inl gh)) := k17 _ _ a32 
        have a34 : f3 wwt = some (.inl (cy 1, 60, .inr (.inl gt))) := k5 _ _ x_wwt 
        have a35 : f15 wwt = some (.inl (cy 1, 60, .inr (.inl gt))) := k17 _ _ a34 
        have a36 : f15 wfy = some (.inl (cy 0, 6, .inl gy)) := k17 _ _ a13 
        have a37 : f15 wfk = some (.inl (cy 0, 24, .inl gq)) := k17 _ _ a14 
        have a38 : f3 wem = some (.inl (cy 0, 60, .inl ge1)) := k5 _ _ x_wem 
        have a39 : f15 wem = some (.inl (cy 0, 60, .inl ge1)) := k17 _ _ a38 
        have a40 : f3 wna = some (.inl (cy 0, 60, .inl gn1)) := k5 _ _ x_wna 
        have a41 : f15 wna = some (.inl (cy 0, 60, .inl gn1)) := k17 _ _ a40 
        have a42 : f3 wpl = some (.inl (cy 0, 60, .inl gp1)) := k5 _ _ x_wpl 
        have a43 : f15 wpl = some (.inl (cy 0, 60, .inl gp1)) := k17 _ _ a42 
        have a44 : f3 whs = some (.inl (cy 0, 4, .inl gs)) := k5 _ _ x_whs 
        have a45 : f15 whs = some (.inl (cy 0, 4, .inl gs)) := k17 _ _ a44 
        have a46 : f3 wk1 = some (.inl (cy 0, 40, .inl gx1)) := k5 _ _ x_wk1 
        have a47 : f15 wk1 = some (.inl (cy 0, 40, .inl gx1)) := k17 _ _ a46 
        have a48 : f3 wk2 = some (.inl (cy 0, 40, .inl gx2)) := k5 _ _ x_wk2 
        have a49 : f15 wk2 = some (.inl (cy 0, 40, .inl gx2)) := k17 _ _ a48 
        have a50 : f3 wk3 = some (.inl (cy 0, 40, .inl gx3)) := k5 _ _ x_wk3 
        have a51 : f15 wk3 = some (.inl (cy 0, 40, .inl gx3)) := k17 _ _ a50 
        exact z_iret C hr rfl hz hS ⟨u1, u2, u3, nl, nn, nf, nc, lk, ks, gv, gu, gk, gm, gc, gw, gl, gh, gt, gy, gq, ge1, gn1, gp1, gs, gx1, gx2, gx3, ln, fz, sq, (by simp [q_tag, hFf, hIf, hFa, hIa, hNa, c1, c2, c6]), rfl, rfl, rfl, rfl, rfl, rfl, rfl, rfl, rfl, rfl, rfl, rfl, rfl, rfl, rfl, rfl, rfl, rfl, rfl, rfl, rfl, rfl, rfl, rfl, rfl, ⟨a18, a20, a22, a23, a25, a27, a29, a31, a33, a35, a36, a37, a39, a41, a43, a45, a47, a49, a51, hn60, hl12, hf6, hc60, hs40, hMP, hgy, hfz, hgs, hME, hlk, hgw, hfd, n_wki_wmy, n_wki_wiw, n_wki_wli, n_wki_wha, n_wki_wem, n_wki_wna, n_wki_wpl, n_wmy_wiw, n_wmy_wli, n_wmy_wha, n_wmy_wem, n_wmy_wna, n_wmy_wpl, n_wiw_wli, n_wiw_wha, n_wiw_wem, n_wiw_wna, n_wiw_wpl, n_wli_wha, n_wli_wem, n_wli_wna, n_wli_wpl, n_wha_wem, n_wha_wna, n_wha_wpl, n_wem_wna, n_wem_wpl, n_wna_wpl, n_wk1_wk2, n_wk1_wk3, n_wk2_wk3⟩⟩ (Nat.le_of_ble_eq_true rfl) (Nat.le_of_ble_eq_true rfl) dX8_tag_31
      · have hFa : isF nn y = false := isF_f hn60 hva
        refine z_callVi (As := [.int y]) C hz hS hA hl (k_X8_isFigure_B l D cy f o wev wnb wki wmy wce wiw wli wha wwt wfy wfk wem wna wpl whs wk1 wk2 wk3 u1 u2 u3 nl nn nf nc lk ks y x_o hn60 hva) zyX8_isFigure mMX8_139 x_o zl8 rfl rfl (Nat.le_of_ble_eq_true rfl) ⟨Nat.le_of_ble_eq_true rfl, Nat.le_of_ble_eq_true rfl⟩ ⟨Nat.le_of_ble_eq_true rfl, Nat.le_of_ble_eq_true rfl⟩ dX8_tag_14 (fun r f52 H locs h53 hz hS => ?_)
        obtain ⟨rfl, k54⟩ := h53
        refine lv_if_ne (tgt := 25) hx hb dX8_tag_17 (by decide) (fun c55 => ?_) (fun c55 => ?_)
        · exact absurd c55 (by decide)
        refine lv_bipush (v := (-2)) hx hb dX8_tag_20 (by decide) ?_
        refine lv_goto (tgt := 31) hx hb dX8_tag_22 (by decide) ?_
        have a56 : f52 o = some (.inr (8, [.int u1, .int u2, .int u3, .ref wev, .int (nI nl), .ref wnb, .int (nI nn), .ref wki, .ref wmy, .ref wce, .ref wiw, .ref wli, .ref wha, .ref wwt, .int (nI nf), .ref wfy, .ref wfk, .int (nI nc), .ref wem, .ref wna, .ref wpl, .ref whs, .long lk, .int (nI ks), .ref wk1, .ref wk2, .ref wk3])) := k54 _ _ x_o 
        have a57 : f52 wev = some (.inl (cy 0, 8, .inl gv)) := k54 _ _ x_wev 
        have a58 : f52 wnb = some (.inl (cy 0, 12, .inl gu)) := k54 _ _ x_wnb 
        have a59 : f52 wki = some (.inl (cy 0, 60, .inl gk)) := k54 _ _ x_wki 
        have a60 : f52 wmy = some (.inl (cy 0, 60, .inl gm)) := k54 _ _ x_wmy 
        have a61 : f52 wce = some (.inl (cy 1, 960, .inr (.inl gc))) := k54 _ _ x_wce 
        have a62 : f52 wiw = some (.inl (cy 2, 60, .inl gw)) := k54 _ _ x_wiw 
        have a63 : f52 wli = some (.inl (cy 0, 60, .inl gl)) := k54 _ _ x_wli 
        have a64 : f52 wha = some (.inl (cy 0, 60, .inl gh)) := k54 _ _ x_wha 
        have a65 : f52 wwt = some (.inl (cy 1, 60, .inr (.inl gt))) := k54 _ _ x_wwt 
        have a66 : f52 wfy = some (.inl (cy 0, 6, .inl gy)) := k54 _ _ x_wfy 
        have a67 : f52 wfk = some (.inl (cy 0, 24, .inl gq)) := k54 _ _ x_wfk 
        have a68 : f52 wem = some (.inl (cy 0, 60, .inl ge1)) := k54 _ _ x_wem 
        have a69 : f52 wna = some (.inl (cy 0, 60, .inl gn1)) := k54 _ _ x_wna 
        have a70 : f52 wpl = some (.inl (cy 0, 60, .inl gp1)) := k54 _ _ x_wpl 
        have a71 : f52 whs = some (.inl (cy 0, 4, .inl gs)) := k54 _ _ x_whs 
        have a72 : f52 wk1 = some (.inl (cy 0, 40, .inl gx1)) := k54 _ _ x_wk1 
        have a73 : f52 wk2 = some (.inl (cy 0, 40, .inl gx2)) := k54 _ _ x_wk2 
        have a74 : f52 wk3 = some (.inl (cy 0, 40, .inl gx3)) := k54 _ _ x_wk3 
        exact z_iret C hr rfl hz hS ⟨u1, u2, u3, nl, nn, nf, nc, lk, ks, gv, gu, gk, gm, gc, gw, gl, gh, gt, gy, gq, ge1, gn1, gp1, gs, gx1, gx2, gx3, ln, fz, sq, (by simp [q_tag, hFf, hIf, hFa, c1, c2, c55]), rfl, rfl, rfl, rfl, rfl, rfl, rfl, rfl, rfl, rfl, rfl, rfl, rfl, rfl, rfl, rfl, rfl, rfl, rfl, rfl, rfl, rfl, rfl, rfl, rfl, ⟨a56, a57, a58, a59, a60, a61, a62, a63, a64, a65, a66, a67, a68, a69, a70, a71, a72, a73, a74, hn60, hl12, hf6, hc60, hs40, hMP, hgy, hfz, hgs, hME, hlk, hgw, hfd, n_wki_wmy, n_wki_wiw, n_wki_wli, n_wki_wha, n_wki_wem, n_wki_wna, n_wki_wpl, n_wmy_wiw, n_wmy_wli, n_wmy_wha, n_wmy_wem, n_wmy_wna, n_wmy_wpl, n_wiw_wli, n_wiw_wha, n_wiw_wem, n_wiw_wna, n_wiw_wpl, n_wli_wha, n_wli_wem, n_wli_wna, n_wli_wpl, n_wha_wem, n_wha_wna, n_wha_wpl, n_wem_wna, n_wem_wpl, n_wna_wpl, n_wk1_wk2, n_wk1_wk3, n_wk2_wk3⟩⟩ (Nat.le_of_ble_eq_true rfl) (Nat.le_of_ble_eq_true rfl) dX8_tag_31
abbrev rmX8_tagged : Room := { frames := 1, cells := 0, slots := 0, locals := 26 }
set_option maxHeartbeats 4000000 in
set_option maxRecDepth 100000 in
theorem k_X8_tagged (l : Launch) (D : va_G) (cy : Nat → ClassId) (f : zM) (o : Nat) (wev : Nat) (wnb : Nat) (wki : Nat) (wmy : Nat) (wce : Nat) (wiw : Nat) (wli : Nat) (wha : Nat) (wwt : Nat) (wfy : Nat) (wfk : Nat) (wem : Nat) (wna : Nat) (wpl : Nat) (whs : Nat) (wk1 : Nat) (wk2 : Nat) (wk3 : Nat) (u1 : Int32) (u2 : Int32) (u3 : Int32) (nl : Nat) (nn : Nat) (nf : Nat) (nc : Nat) (lk : Int64) (ks : Nat) (gv : Nat → Int32) (gu : Nat → Int32) (gk : Nat → Int32) (gm : Nat → Int32) (gc : Nat → Int64) (gw : Nat → Int32) (gl : Nat → Int32) (gh : Nat → Int32) (gt : Nat → Int64) (gy : Nat → Int32) (gq : Nat → Int32) (ge1 : Nat → Int32) (gn1 : Nat → Int32) (gp1 : Nat → Int32) (gs : Nat → Int32) (gx1 : Nat → Int32) (gx2 : Nat → Int32) (gx3 : Nat → Int32) (ln : Nat → Nat) (fz : Nat → Nat) (sq : Nat → Nat) (x : Int32) (y : Int32)    (hI : zIM cy f o wev wnb wki wmy wce wiw wli wha wwt wfy wfk wem wna wpl whs wk1 wk2 wk3 u1 u2 u3 nl nn nf nc lk ks gv gu gk gm gc gw gl gh gt gy gq ge1 gn1 gp1 gs gx1 gx2 gx3 ln fz sq) : zCi l D cy yX8_tagged cX8_tagged 5 (Option.some Jvm.ClassFile.FieldType.int) rmX8_tagged [.ref o, .int x, .int y] f (fun (r : Int32) (f1 : zM) => ∃ (u11 : Int32) (u21 : Int32) (u31 : Int32) (nl1 : Nat) (nn1 : Nat) (nf1 : Nat) (nc1 : Nat) (lk1 : Int64) (ks1 : Nat) (gv1 : Nat → Int32) (gu1 : Nat → Int32) (gk1 : Nat → Int32) (gm1 : Nat → Int32) (gc1 : Nat → Int64) (gw1 : Nat → Int32) (gl1 : Nat → Int32) (gh1 : Nat → Int32) (gt1 : Nat → Int64) (gy1 : Nat → Int32) (gq1 : Nat → Int32) (ge11 : Nat → Int32) (gn11 : Nat → Int32) (gp11 : Nat → Int32) (gs1 : Nat → Int32) (gx11 : Nat → Int32) (gx21 : Nat → Int32) (gx31 : Nat → Int32) (ln1 : Nat → Nat) (fz1 : Nat → Nat) (sq1 : Nat → Nat), r = (q_tagged nf fz (fun i j => gq (4 * i + j)) nn gk x y) ∧ (u11 = u1) ∧ (u21 = u2) ∧ (u31 = u3) ∧ (gv1 = gv) ∧ (nl1 = nl) ∧ (gu1 = gu) ∧ (nn1 = nn) ∧ (gk1 = gk) ∧ (ln1 = ln) ∧ (gw1 = gw) ∧ (gh1 = gh) ∧ (gc1 = gc) ∧ (nf1 = nf) ∧ (fz1 = fz) ∧ (gq1 = gq) ∧ (nc1 = nc) ∧ (ge11 = ge1) ∧ (gn11 = gn1) ∧ (gp11 = gp1) ∧ (sq1 = sq) ∧ (ks1 = ks) ∧ (gx11 = gx1) ∧ (gx21 = gx2) ∧ (gx31 = gx3) ∧ (lk1 = lk) ∧ zIM cy f1 o wev wnb wki wmy wce wiw wli wha wwt wfy wfk wem wna wpl whs wk1 wk2 wk3 u11 u21 u31 nl1 nn1 nf1 nc1 lk1 ks1 gv1 gu1 gk1 gm1 gc1 gw1 gl1 gh1 gt1 gy1 gq1 ge11 gn11 gp11 gs1 gx11 gx21 gx31 ln1 fz1 sq1) := by
  intro sz
  refine z_body (by decide +kernel) (Nat.le_of_ble_eq_true rfl) ?_
  intro p e s m below meth c ls C hr hin hsz hz hl
  subst hsz
  have hx := C.1
  have hb := C.2.1
  have hA : ∀ q, s.heap.size ≤ q → zA f s.heap.size q := fun q h => Or.inr h
  have hS : va_S (zA f s.heap.size) s.heap s.heap [] := va_S.rf
  have hl : lv_has ls 5 [(0, .ref o), (1, .int x), (2, .int y)] := hl
  obtain ⟨x_o, x_wev, x_wnb, x_wki, x_wmy, x_wce, x_wiw, x_wli, x_wha, x_wwt, x_wfy, x_wfk, x_wem, x_wna, x_wpl, x_whs, x_wk1, x_wk2, x_wk3, hn60, hl12, hf6, hc60, hs40, hMP, hgy, hfz, hgs, hME, hlk, hgw, hfd, n_wki_wmy, n_wki_wiw, n_wki_wli, n_wki_wha, n_wki_wem, n_wki_wna, n_wki_wpl, n_wmy_wiw, n_wmy_wli, n_wmy_wha, n_wmy_wem, n_wmy_wna, n_wmy_wpl, n_wiw_wli, n_wiw_wha, n_wiw_wem, n_wiw_wna, n_wiw_wpl, n_wli_wha, n_wli_wem, n_wli_wna, n_wli_wpl, n_wha_wem, n_wha_wna, n_wha_wpl, n_wem_wna, n_wem_wpl, n_wna_wpl, n_wk1_wk2, n_wk1_wk3, n_wk2_wk3⟩ := id hI
  refine lv_iload_n hx hb dX8_tagged_0 rfl (lv_at hl 1 rfl) ?_
  refine lv_if_lt (tgt := 22) hx hb dX8_tagged_1 (by decide) (fun c1 => ?_) (fun c1 => ?_)
  · have hFf : isF nf x = false := isF_lt c1
    refine lv_bipush (v := (-2)) hx hb dX8_tagged_22 (by decide) ?_
    exact z_iret C hr rfl hz hS ⟨u1, u2, u3, nl, nn, nf, nc, lk, ks, gv, gu, gk, gm, gc, gw, gl, gh, gt, gy, gq, ge1, gn1, gp1, gs, gx1, gx2, gx3, ln, fz, sq, (by simp [q_tagged, hFf, c1]), rfl, rfl, rfl, rfl, rfl, rfl, rfl, rfl, rfl, rfl, rfl, rfl, rfl, rfl, rfl, rfl, rfl, rfl, rfl, rfl, rfl, rfl, rfl, rfl, rfl, ⟨x_o, x_wev, x_wnb, x_wki, x_wmy, x_wce, x_wiw, x_wli, x_wha, x_wwt, x_wfy, x_wfk, x_wem, x_wna, x_wpl, x_whs, x_wk1, x_wk2, x_wk3, hn60, hl12, hf6, hc60, hs40, hMP, hgy, hfz, hgs, hME, hlk, hgw, hfd, n_wki_wmy, n_wki_wiw, n_wki_wli, n_wki_wha, n_wki_wem, n_wki_wna, n_wki_wpl, n_wmy_wiw, n_wmy_wli, n_wmy_wha, n_wmy_wem, n_wmy_wna, n_wmy_wpl, n_wiw_wli, n_wiw_wha, n_wiw_wem, n_wiw_wna, n_wiw_wpl, n_wli_wha, n_wli_wem, n_wli_wna, n_wli_wpl, n_wha_wem, n_wha_wna, n_wha_wpl, n_wem_wna, n_wem_wpl, n_wna_wpl, n_wk1_wk2, n_wk1_wk3, n_wk2_wk3⟩⟩ (Nat.le_of_ble_eq_true rfl) (Nat.le_of_ble_eq_true rfl) dX8_tagged_24
  · refine lv_iload_n hx hb dX8_tagged_4 rfl (lv_at hl 1 rfl) ?_
    refine lv_aload_n hx hb dX8_tagged_5 rfl (lv_at hl 0 rfl) ?_
    refine z_get (v := .int (nI nf)) C hz x_o zl8 mFX8_187 (by decide) rfl dX8_tagged_6 ?_
    refine lv_icmp_ge (tgt := 22) hx hb dX8_tagged_9 (by decide) (fun c2 => ?_) (fun c2 => ?_)
    · have hFf : isF nf x = false := isF_ge c2
      refine lv_bipush (v := (-2)) hx hb dX8_tagged_22 (by decide) ?_
      exact z_iret C hr rfl hz hS ⟨u1, u2, u3, nl, nn, nf, nc, lk, ks, gv, gu, gk, gm, gc, gw, gl, gh, gt, gy, gq, ge1, gn1, gp1, gs, gx1, gx2, gx3, ln, fz, sq, (by simp [q_tagged, hFf, c1, c2]), rfl, rfl, rfl, rfl, rfl, rfl, rfl, rfl, rfl, rfl, rfl, rfl, rfl, rfl, rfl, rfl, rfl, rfl, rfl, rfl, rfl, rfl, rfl, rfl, rfl, ⟨x_o, x_wev, x_wnb, x_wki, x_wmy, x_wce, x_wiw, x_wli, x_wha, x_wwt, x_wfy, x_wfk, x_wem, x_wna, x_wpl, x_whs, x_wk1, x_wk2, x_wk3, hn60, hl12, hf6, hc60, hs40, hMP, hgy, hfz, hgs, hME, hlk, hgw, hfd, n_wki_wmy, n_wki_wiw, n_wki_wli, n_wki_wha, n_wki_wem, n_wki_wna, n_wki_wpl, n_wmy_wiw, n_wmy_wli, n_wmy_wha, n_wmy_wem, n_wmy_wna, n_wmy_wpl, n_wiw_wli, n_wiw_wha, n_wiw_wem, n_wiw_wna, n_wiw_wpl, n_wli_wha, n_wli_wem, n_wli_wna, n_wli_wpl, n_wha_wem, n_wha_wna, n_wha_wpl, n_wem_wna, n_wem_wpl, n_wna_wpl, n_wk1_wk2, n_wk1_wk3, n_wk2_wk3⟩⟩ (Nat.le_of_ble_eq_true rfl) (Nat.le_of_ble_eq_true rfl) dX8_tagged_24
    · obtain ⟨jf, hjf, hxf⟩ := z_ixl c1 c2 (by omega)
      have hFf : isF nf x = true := isF_t (by omega) hjf hxf
      have hIf : fI x = jf := fI_of (by omega) hxf
      refine lv_iload_n hx hb dX8_tagged_12 rfl (lv_at hl 2 rfl) ?_
      refine lv_iconst (v := (-1)) hx hb dX8_tagged_13 (by decide) ?_
      refine lv_icmp_lt (tgt := 22) hx hb dX8_tagged_14 (by decide) (fun c3 => ?_) (fun c3 => ?_)
      · refine lv_bipush (v := (-2)) hx hb dX8_tagged_22 (by decide) ?_
        exact z_iret C hr rfl hz hS ⟨u1, u2, u3, nl, nn, nf, nc, lk, ks, gv, gu, gk, gm, gc, gw, gl, gh, gt, gy, gq, ge1, gn1, gp1, gs, gx1, gx2, gx3, ln, fz, sq, (by simp [q_tagged, hFf, hIf, c1, c2, c3]), rfl, rfl, rfl, rfl, rfl, rfl, rfl, rfl, rfl, rfl, rfl, rfl, rfl, rfl, rfl, rfl, rfl, rfl, rfl, rfl, rfl, rfl, rfl, rfl, rfl, ⟨x_o, x_wev, x_wnb, x_wki, x_wmy, x_wce, x_wiw, x_wli, x_wha, x_wwt, x_wfy, x_wfk, x_wem, x_wna, x_wpl, x_whs, x_wk1, x_wk2, x_wk3, hn60, hl12, hf6, hc60, hs40, hMP, hgy, hfz, hgs, hME, hlk, hgw, hfd, n_wki_wmy, n_wki_wiw, n_wki_wli, n_wki_wha, n_wki_wem, n_wki_wna, n_wki_wpl, n_wmy_wiw, n_wmy_wli, n_wmy_wha, n_wmy_wem, n_wmy_wna, n_wmy_wpl, n_wiw_wli, n_wiw_wha, n_wiw_wem, n_wiw_wna, n_wiw_wpl, n_wli_wha, n_wli_wem, n_wli_wna, n_wli_wpl, n_wha_wem, n_wha_wna, n_wha_wpl, n_wem_wna, n_wem_wpl, n_wna_wpl, n_wk1_wk2, n_wk1_wk3, n_wk2_wk3⟩⟩ (Nat.le_of_ble_eq_true rfl) (Nat.le_of_ble_eq_true rfl) dX8_tagged_24
      · have hy1 : ¬ y < (-1) := c3
        refine lv_iload_n hx hb dX8_tagged_17 rfl (lv_at hl 2 rfl) ?_
        refine lv_iconst (v := 3) hx hb dX8_tagged_18 (by decide) ?_
        refine lv_icmp_le (tgt := 25) hx hb dX8_tagged_19 (by decide) (fun c4 => ?_) (fun c4 => ?_)
        · have hy2 : y ≤ 3 := c4
          refine lv_iconst (v := 0) hx hb dX8_tagged_25 (by decide) ?_
          refine lv_istore_n (lv' := [(3, .int 0), (0, .ref o), (1, .int x), (2, .int y)]) hx hb dX8_tagged_26 rfl hl (by decide) rfl (fun ls hl => ?_)
          refine lv_iconst (v := 0) hx hb dX8_tagged_27 (by decide) ?_
          refine lv_istore (lv' := [(4, .int 0), (3, .int 0), (0, .ref o), (1, .int x), (2, .int y)]) hx hb dX8_tagged_28 hl (by decide) rfl (fun ls hl => ?_)
          have lp5 : ∀ (n : Nat) (ff : Nat) (cq : Int32) (fL6 : zM) (H : Heap) (locs : List Loc) (ls : Array Slot), (nn - ff) < n → (ff ≤ nn) → (cq = zTC (fz jf) (fun j => gq (4 * jf + j)) gk y ff) → (∀ (b : Nat) (e : va_E), f b = some e → fL6 b = some e) → zH D (zA f s.heap.size) fL6 H → va_S (zA f s.heap.size) s.heap H locs → lv_has ls 5 [(0, .ref o), (1, .int x), (2, .int y), (3, .int cq), (4, .int (nI ff))] → W p l e rmX8_tagged s m ([.ref o, .int x, .int y] : List Value).toArray below meth c H locs 0 0 (MQ below (va_Qi (fun (r : Int32) (f1 : zM) => ∃ (u11 : Int32) (u21 : Int32) (u31 : Int32) (nl1 : Nat) (nn1 : Nat) (nf1 : Nat) (nc1 : Nat) (lk1 : Int64) (ks1 : Nat) (gv1 : Nat → Int32) (gu1 : Nat → Int32) (gk1 : Nat → Int32) (gm1 : Nat → Int32) (gc1 : Nat → Int64) (gw1 : Nat → Int32) (gl1 : Nat → Int32) (gh1 : Nat → Int32) (gt1 : Nat → Int64) (gy1 : Nat → Int32) (gq1 : Nat → Int32) (ge11 : Nat → Int32) (gn11 : Nat → Int32) (gp11 : Nat → Int32) (gs1 : Nat → Int32) (gx11 : Nat → Int32) (gx21 : Nat → Int32) (gx31 : Nat → Int32) (ln1 : Nat → Nat) (fz1 : Nat → Nat) (sq1 : Nat → Nat), r = (q_tagged nf fz (fun i j => gq (4 * i + j)) nn gk x y) ∧ (u11 = u1) ∧ (u21 = u2) ∧ (u31 = u3) ∧ (gv1 = gv) ∧ (nl1 = nl) ∧ (gu1 = gu) ∧ (nn1 = nn) ∧ (gk1 = gk) ∧ (ln1 = ln) ∧ (gw1 = gw) ∧ (gh1 = gh) ∧ (gc1 = gc) ∧ (nf1 = nf) ∧ (fz1 = fz) ∧ (gq1 = gq) ∧ (nc1 = nc) ∧ (ge11 = ge1) ∧ (gn11 = gn1) ∧ (gp11 = gp1) ∧ (sq1 = sq) ∧ (ks1 = ks) ∧ (gx11 = gx1) ∧ (gx21 = gx2) ∧ (gx31 = gx3) ∧ (lk1 = lk) ∧ zIM cy f1 o wev wnb wki wmy wce wiw wli wha wwt wfy wfk wem wna wpl whs wk1 wk2 wk3 u11 u21 u31 nl1 nn1 nf1 nc1 lk1 ks1 gv1 gu1 gk1 gm1 gc1 gw1 gl1 gh1 gt1 gy1 gq1 ge11 gn11 gp11 gs1 gx11 gx21 gx31 ln1 fz1 sq1) (zB D f s.heap.size) (zA f s.heap.size)) ([.ref o, .int x, .int y] : List Value).toArray s rmX8_tagged.cells rmX8_tagged.slots (zA f s.heap.size)) (F0 m 30 ls []) := by
            intro n
            induction n with
            | zero => intro ff cq fL6 H locs ls hmz; exact absurd hmz (Nat.not_lt_zero _)
            | succ n ih =>
              intro ff cq fL6 H locs ls hmz hff hcq  k7 hz hS hl
              refine lv_iload hx hb dX8_tagged_30 (lv_at hl 4 rfl) ?_
              refine lv_aload_n hx hb dX8_tagged_32 rfl (lv_at hl 0 rfl) ?_
              have a8 : fL6 o = some (.inr (8, [.int u1, .int u2, .int u3, .ref wev, .int (nI nl), .ref wnb, .int (nI nn), .ref wki, .ref wmy, .ref wce, .ref wiw, .ref wli, .ref wha, .ref wwt, .int (nI nf), .ref wfy, .ref wfk, .int (nI nc), .ref wem, .ref wna, .ref wpl, .ref whs, .long lk, .int (nI ks), .ref wk1, .ref wk2, .ref wk3])) := k7 _ _ x_o 
              refine z_get (v := .int (nI nn)) C hz a8 zl8 mFX8_83 (by decide) rfl dX8_tagged_33 ?_
              refine lv_icmp_ge (tgt := 64) hx hb dX8_tagged_36 (by decide) (fun c9 => ?_) (fun c9 => ?_)
              · replace c9 : (nn ≤ ff) := (nI_leI (a := nn) (b := ff) (by omega) (by omega)).mp c9
                refine lv_iload_n hx hb dX8_tagged_64 rfl (lv_at hl 3 rfl) ?_
                have a10 : fL6 wev = some (.inl (cy 0, 8, .inl gv)) := k7 _ _ x_wev 
                have a11 : fL6 wnb = some (.inl (cy 0, 12, .inl gu)) := k7 _ _ x_wnb 
                have a12 : fL6 wki = some (.inl (cy 0, 60, .inl gk)) := k7 _ _ x_wki 
                have a13 : fL6 wmy = some (.inl (cy 0, 60, .inl gm)) := k7 _ _ x_wmy 
                have a14 : fL6 wce = some (.inl (cy 1, 960, .inr (.inl gc))) := k7 _ _ x_wce 
                have a15 : fL6 wiw = some (.inl (cy 2, 60, .inl gw)) := k7 _ _ x_wiw 
                have a16 : fL6 wli = some (.inl (cy 0, 60, .inl gl)) := k7 _ _ x_wli 
                have a17 : fL6 wha = some (.inl (cy 0, 60, .inl gh)) := k7 _ _ x_wha 
                have a18 : fL6 wwt = some (.inl (cy 1, 60, .inr (.inl gt))) := k7 _ _ x_wwt 
                have a19 : fL6 wfy = some (.inl (cy 0, 6, .inl gy)) := k7 _ _ x_wfy 
                have a20 : fL6 wfk = some (.inl (cy 0, 24, .inl gq)) := k7 _ _ x_wfk 
                have a21 : fL6 wem = some (.inl (cy 0, 60, .inl ge1)) := k7 _ _ x_wem 
                have a22 : fL6 wna = some (.inl (cy 0, 60, .inl gn1)) := k7 _ _ x_wna 
                have a23 : fL6 wpl = some (.inl (cy 0, 60, .inl gp1)) := k7 _ _ x_wpl 
                have a24 : fL6 whs = some (.inl (cy 0, 4, .inl gs)) := k7 _ _ x_whs 
                have a25 : fL6 wk1 = some (.inl (cy 0, 40, .inl gx1)) := k7 _ _ x_wk1 
                have a26 : fL6 wk2 = some (.inl (cy 0, 40, .inl gx2)) := k7 _ _ x_wk2 
                have a27 : fL6 wk3 = some (.inl (cy 0, 40, .inl gx3)) := k7 _ _ x_wk3 
                exact z_iret C hr rfl hz hS ⟨u1, u2, u3, nl, nn, nf, nc, lk, ks, gv, gu, gk, gm, gc, gw, gl, gh, gt, gy, gq, ge1, gn1, gp1, gs, gx1, gx2, gx3, ln, fz, sq, (by obtain rfl : ff = nn := (by omega); rw [hcq, q_tagged, if_pos hFf, if_neg hy1, if_pos hy2, hIf]), rfl, rfl, rfl, rfl, rfl, rfl, rfl, rfl, rfl, rfl, rfl, rfl, rfl, rfl, rfl, rfl, rfl, rfl, rfl, rfl, rfl, rfl, rfl, rfl, rfl, ⟨a8, a10, a11, a12, a13, a14, a15, a16, a17, a18, a19, a20, a21, a22, a23, a24, a25, a26, a27, hn60, hl12, hf6, hc60, hs40, hMP, hgy, hfz, hgs, hME, hlk, hgw, hfd, n_wki_wmy, n_wki_wiw, n_wki_wli, n_wki_wha, n_wki_wem, n_wki_wna, n_wki_wpl, n_wmy_wiw, n_wmy_wli, n_wmy_wha, n_wmy_wem, n_wmy_wna, n_wmy_wpl, n_wiw_wli, n_wiw_wha, n_wiw_wem, n_wiw_wna, n_wiw_wpl, n_wli_wha, n_wli_wem, n_wli_wna, n_wli_wpl, n_wha_wem, n_wha_wna, n_wha_wpl, n_wem_wna, n_wem_wpl, n_wna_wpl, n_wk1_wk2, n_wk1_wk3, n_wk2_wk3⟩⟩ (Nat.le_of_ble_eq_true rfl) (Nat.le_of_ble_eq_true rfl) dX8_tagged_65
              · replace c9 : ¬ (nn ≤ ff) := fun h => c9 ((nI_leI (a := nn) (b := ff) (by omega) (by omega)).mpr h)
                refine lv_iload_n hx hb dX8_tagged_39 rfl (lv_at hl 3 rfl) ?_
                refine lv_aload_n hx hb dX8_tagged_40 rfl (lv_at hl 0 rfl) ?_
                refine lv_iload_n hx hb dX8_tagged_41 rfl (lv_at hl 1 rfl) ?_
                refine lv_topi (fun y28 e29 => ?_)
                obtain rfl : y28 = nI jf := e29.trans hxf
                refine lv_iload hx hb dX8_tagged_42 (lv_at hl 4 rfl) ?_
                have a30 : fL6 wki = some (.inl (cy 0, 60, .inl gk)) := k7 _ _ x_wki 
                have a31 : fL6 wfy = some (.inl (cy 0, 6, .inl gy)) := k7 _ _ x_wfy 
                have a32 : fL6 wfk = some (.inl (cy 0, 24, .inl gq)) := k7 _ _ x_wfk 
                refine z_callVi (As := [.int (nI jf), .int (nI ff)]) C hz hS hA hl (k_X8_tagOf l D cy fL6 o wev wnb wki wmy wce wiw wli wha wwt wfy wfk wem wna wpl whs wk1 wk2 wk3 u1 u2 u3 nl nn nf nc lk ks gk gy gq jf ff (fz jf) a8 a30 a31 a32 (by omega) (by omega) (hgy jf hjf) (hfz jf hjf) (hfd jf hjf)) zyX8_tagOf mMX8_190 a8 zl8 rfl rfl (Nat.le_of_ble_eq_true rfl) ⟨Nat.le_of_ble_eq_true rfl, Nat.le_of_ble_eq_true rfl⟩ ⟨Nat.le_of_ble_eq_true rfl, Nat.le_of_ble_eq_true rfl⟩ dX8_tagged_44 (fun r f33 H locs h34 hz hS => ?_)
                obtain ⟨rfl, k35⟩ := h34
                refine lv_iload_n hx hb dX8_tagged_47 rfl (lv_at hl 2 rfl) ?_
                refine lv_icmp_ne (tgt := 55) hx hb dX8_tagged_48 (by decide) (fun c36 => ?_) (fun c36 => ?_)
                · refine lv_iconst (v := 0) hx hb dX8_tagged_55 (by decide) ?_
                  refine lv_iadd hx hb dX8_tagged_56 ?_
                  refine lv_istore_n (lv' := [(3, .int (cq + 0)), (0, .ref o), (1, .int x), (2, .int y), (4, .int (nI ff))]) hx hb dX8_tagged_57 rfl hl (by decide) rfl (fun ls hl => ?_)
                  refine lv_iinc (v := nI (ff + 1)) (lv' := [(4, .int (nI (ff + 1))), (3, .int (cq + 0)), (0, .ref o), (1, .int x), (2, .int y)]) hx hb dX8_tagged_58 hl (k := 4) rfl (nI_1 ff) (by decide) rfl (fun ls hl => ?_)
                  refine lv_goto (tgt := 30) hx hb dX8_tagged_61 (by decide) ?_
                  exact ih (ff + 1) (cq + 0) _ _ _ _ (by omega) (by omega) (by rw [zTC, if_neg c36, Int32.add_zero]; exact hcq)  (by
                        intro b e hb 
                        have hb0 : fL6 b = some e := k7 b e hb 
                        have hb1 : f33 b = some e := k35 b e hb0 
                        exact hb1) hz hS (lv_sub hl [2, 3, 4, 1, 0] rfl)
                · refine lv_iconst (v := 1) hx hb dX8_tagged_51 (by decide) ?_
                  refine lv_goto (tgt := 56) hx hb dX8_tagged_52 (by decide) ?_
                  refine lv_iadd hx hb dX8_tagged_56 ?_
                  refine lv_istore_n (lv' := [(3, .int (cq + 1)), (0, .ref o), (1, .int x), (2, .int y), (4, .int (nI ff))]) hx hb dX8_tagged_57 rfl hl (by decide) rfl (fun ls hl => ?_)
                  refine lv_iinc (v := nI (ff + 1)) (lv' := [(4, .int (nI (ff + 1))), (3, .int (cq + 1)), (0, .ref o), (1, .int x), (2, .int y)]) hx hb dX8_tagged_58 hl (k := 4) rfl (nI_1 ff) (by decide) rfl (fun ls hl => ?_)
                  refine lv_goto (tgt := 30) hx hb dX8_tagged_61 (by decide) ?_
                  exact ih (ff + 1) (cq + 1) _ _ _ _ (by omega) (by omega) (by rw [zTC, if_pos c36, ← hcq])  (by
                        intro b e hb 
                        have hb0 : fL6 b = some e := k7 b e hb 
                        have hb1 : f33 b = some e := k35 b e hb0 
                        exact hb1) hz hS (lv_sub hl [2, 3, 4, 1, 0] rfl)
          exact lp5 (nn - 0 + 1) 0 0 _ _ _ _ (Nat.lt_succ_self _) (by omega) rfl  (fun b e hb => hb) hz hS (lv_sub hl [2, 3, 4, 1, 0] rfl)
        · have hy2 : ¬ y ≤ 3 := c4
          refine lv_bipush (v := (-2)) hx hb dX8_tagged_22 (by decide) ?_
          exact z_iret C hr rfl hz hS ⟨u1, u2, u3, nl, nn, nf, nc, lk, ks, gv, gu, gk, gm, gc, gw, gl, gh, gt, gy, gq, ge1, gn1, gp1, gs, gx1, gx2, gx3, ln, fz, sq, (by simp [q_tagged, hFf, hIf, hy1, hy2, c1, c2, c3, c4]), rfl, rfl, rfl, rfl, rfl, rfl, rfl, rfl, rfl, rfl, rfl, rfl, rfl, rfl, rfl, rfl, rfl, rfl, rfl, rfl, rfl, rfl, rfl, rfl, rfl, ⟨x_o, x_wev, x_wnb, x_wki, x_wmy, x_wce, x_wiw, x_wli, x_wha, x_wwt, x_wfy, x_wfk, x_wem, x_wna, x_wpl, x_whs, x_wk1, x_wk2, x_wk3, hn60, hl12, hf6, hc60, hs40, hMP, hgy, hfz, hgs, hME, hlk, hgw, hfd, n_wki_wmy, n_wki_wiw, n_wki_wli, n_wki_wha, n_wki_wem, n_wki_wna, n_wki_wpl, n_wmy_wiw, n_wmy_wli, n_wmy_wha, n_wmy_wem, n_wmy_wna, n_wmy_wpl, n_wiw_wli, n_wiw_wha, n_wiw_wem, n_wiw_wna, n_wiw_wpl, n_wli_wha, n_wli_wem, n_wli_wna, n_wli_wpl, n_wha_wem, n_wha_wna, n_wha_wpl, n_wem_wna, n_wem_wpl, n_wna_wpl, n_wk1_wk2, n_wk1_wk3, n_wk2_wk3⟩⟩ (Nat.le_of_ble_eq_true rfl) (Nat.le_of_ble_eq_true rfl) dX8_tagged_24
