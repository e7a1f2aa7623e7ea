abbrev rmX8_hashOf : Room := { frames := 1, cells := 0, slots := 0, locals := 22 }
set_option maxHeartbeats 4000000 in
set_option maxRecDepth 100000 in
theorem k_X8_hashOf (l : Launch) (D : va_G) (cy : Nat → ClassId) (f : zM) (o : Nat) (wev : Nat) (wnb : Nat) (wki : Nat) (wmy : Nat) (wce : Nat) (wiw : Nat) (wli : Nat) (wha : Nat) (wwt : Nat) (wfy : Nat) (wfk : Nat) (wem : Nat) (wna : Nat) (wpl : Nat) (whs : Nat) (wk1 : Nat) (wk2 : Nat) (wk3 : Nat) (u1 : Int32) (u2 : Int32) (u3 : Int32) (nl : Nat) (nn : Nat) (nf : Nat) (nc : Nat) (lk : Int64) (ks : Nat) (gk : Nat → Int32) (gm : Nat → Int32) (gc : Nat → Int64) (gh : Nat → Int32) (t : Nat) (p0 : f o = some (.inr (8, [.int u1, .int u2, .int u3, .ref wev, .int (nI nl), .ref wnb, .int (nI nn), .ref wki, .ref wmy, .ref wce, .ref wiw, .ref wli, .ref wha, .ref wwt, .int (nI nf), .ref wfy, .ref wfk, .int (nI nc), .ref wem, .ref wna, .ref wpl, .ref whs, .long lk, .int (nI ks), .ref wk1, .ref wk2, .ref wk3]))) (p1 : f wki = some (.inl (cy 0, 60, .inl gk))) (p2 : f wmy = some (.inl (cy 0, 60, .inl gm))) (p3 : f wce = some (.inl (cy 1, 960, .inr (.inl gc)))) (p4 : f wha = some (.inl (cy 0, 60, .inl gh)))  (hn59 : nn < 60) (hmt : gm nn = nI t) (ht : t ≤ 15) (hrf : gk nn = 4 → ∀ k, k < t → gc (16 * nn + k) = (-1) ∨ ∃ j9, j9 < nn ∧ gc (16 * nn + k) = lN j9) : zCi l D cy yX8_hashOf cX8_hashOf 6 (Option.some Jvm.ClassFile.FieldType.int) rmX8_hashOf [.ref o, .int (nI nn)] f (fun (r : Int32) (f1 : zM) => r = (zHash (gk nn) nn t (fun k => gc (16 * nn + k)) gh) ∧ (∀ (b : Nat) (e : va_E), f b = some e → f1 b = some e)) := by
  intro sz
  refine z_body (by decide +kernel) (Nat.le_of_ble_eq_true rfl) ?_
  intro p e s m below meth c ls C hr hin hsz hz hl
  subst hsz
  have hx := C.1
  have hb := C.2.1
  have hA : ∀ q, s.heap.size ≤ q → zA f s.heap.size q := fun q h => Or.inr h
  have hS : va_S (zA f s.heap.size) s.heap s.heap [] := va_S.rf
  have hl : lv_has ls 6 [(0, .ref o), (1, .int (nI nn))] := hl
  refine lv_aload_n hx hb dX8_hashOf_0 rfl (lv_at hl 0 rfl) ?_
  refine z_get (v := .ref wki) C hz p0 zl8 mFX8_20 (by decide) rfl dX8_hashOf_1 ?_
  refine lv_iload_n hx hb dX8_hashOf_4 rfl (lv_at hl 1 rfl) ?_
  refine z_iald nn C hz p1 rfl hn59 (by omega) dX8_hashOf_5 ?_
  refine lv_istore_n (lv' := [(2, .int (gk nn)), (0, .ref o), (1, .int (nI nn))]) hx hb dX8_hashOf_6 rfl hl (by decide) rfl (fun ls hl => ?_)
  refine lv_aload_n hx hb dX8_hashOf_7 rfl (lv_at hl 1 rfl) ?_
  refine z_get (v := .ref wki) C hz p0 zl8 mFX8_20 (by decide) rfl dX8_hashOf_8 ?_
  refine lv_iload_n hx hb dX8_hashOf_11 rfl (lv_at hl 2 rfl) ?_
  refine z_iald nn C hz p1 rfl hn59 (by omega) dX8_hashOf_12 ?_
  refine lv_bipush (v := 6) hx hb dX8_hashOf_13 (by decide) ?_
  refine lv_icmp_ne (tgt := 29) hx hb dX8_hashOf_15 (by decide) (fun c1 => ?_) (fun c1 => ?_)
  · refine lv_iconst (v := 0) hx hb dX8_hashOf_29 (by decide) ?_
    refine lv_istore_n (lv' := [(3, .int 0), (2, .int (gk nn)), (0, .ref o), (1, .int (nI nn))]) hx hb dX8_hashOf_30 rfl hl (by decide) rfl (fun ls hl => ?_)
    have lp2 : ∀ (n : Nat) (hv : Int32) (i : Nat) (fL3 : zM) (H : Heap) (locs : List Loc) (ls : Array Slot), (t - i) < n → (i ≤ t) → (hv = zHF (gk nn) nn gh (fun k => gc (16 * nn + k)) i) → fL3 o = some (.inr (8, [.int u1, .int u2, .int u3, .ref wev, .int (nI nl), .ref wnb, .int (nI nn), .ref wki, .ref wmy, .ref wce, .ref wiw, .ref wli, .ref wha, .ref wwt, .int (nI nf), .ref wfy, .ref wfk, .int (nI nc), .ref wem, .ref wna, .ref wpl, .ref whs, .long lk, .int (nI ks), .ref wk1, .ref wk2, .ref wk3])) → fL3 wki = some (.inl (cy 0, 60, .inl gk)) → fL3 wmy = some (.inl (cy 0, 60, .inl gm)) → fL3 wce = some (.inl (cy 1, 960, .inr (.inl gc))) → fL3 wha = some (.inl (cy 0, 60, .inl gh)) → (∀ (b : Nat) (e : va_E), f b = some e → fL3 b = some e) → zH D (zA f s.heap.size) fL3 H → va_S (zA f s.heap.size) s.heap H locs → lv_has ls 6 [(0, .ref o), (1, .int (nI nn)), (2, .int hv), (3, .int (nI i))] → W p l e rmX8_hashOf s m ([.ref o, .int (nI nn)] : List Value).toArray below meth c H locs 0 0 (MQ below (va_Qi (fun (r : Int32) (f1 : zM) => r = (zHash (gk nn) nn t (fun k => gc (16 * nn + k)) gh) ∧ (∀ (b : Nat) (e : va_E), f b = some e → f1 b = some e)) (zB D f s.heap.size) (zA f s.heap.size)) ([.ref o, .int (nI nn)] : List Value).toArray s rmX8_hashOf.cells rmX8_hashOf.slots (zA f s.heap.size)) (F0 m 31 ls []) := by
      intro n
      induction n with
      | zero => intro hv i fL3 H locs ls hmz; exact absurd hmz (Nat.not_lt_zero _)
      | succ n ih =>
        intro hv i fL3 H locs ls hmz hi hhv a5 a6 a7 a8 a9 k4 hz hS hl
        refine lv_iload_n hx hb dX8_hashOf_31 rfl (lv_at hl 3 rfl) ?_
        refine lv_aload_n hx hb dX8_hashOf_32 rfl (lv_at hl 0 rfl) ?_
        refine z_get (v := .ref wmy) C hz a5 zl8 mFX8_23 (by decide) rfl dX8_hashOf_33 ?_
        refine lv_iload_n hx hb dX8_hashOf_36 rfl (lv_at hl 1 rfl) ?_
        refine z_iald nn C hz a7 rfl hn59 (by omega) dX8_hashOf_37 ?_
        refine lv_topi (fun y10 e11 => ?_)
        obtain rfl : y10 = nI t := e11.trans hmt
        refine lv_icmp_ge (tgt := 98) hx hb dX8_hashOf_38 (by decide) (fun c12 => ?_) (fun c12 => ?_)
        · replace c12 : (t ≤ i) := (nI_leI (a := t) (b := i) (by omega) (by omega)).mp c12
          refine lv_iload_n hx hb dX8_hashOf_98 rfl (lv_at hl 2 rfl) ?_
          exact z_iret C hr rfl hz hS ⟨(by rw [zHash, if_neg c1, show t = i by omega]; exact hhv), (by
                intro b e hb 
                have hb0 : fL3 b = some e := k4 b e hb 
                exact hb0)⟩ (Nat.le_of_ble_eq_true rfl) (Nat.le_of_ble_eq_true rfl) dX8_hashOf_99
        · replace c12 : ¬ (t ≤ i) := fun h => c12 ((nI_leI (a := t) (b := i) (by omega) (by omega)).mpr h)
          refine lv_aload_n hx hb dX8_hashOf_41 rfl (lv_at hl 0 rfl) ?_
          refine lv_iload_n hx hb dX8_hashOf_42 rfl (lv_at hl 1 rfl) ?_
          refine lv_iload_n hx hb dX8_hashOf_43 rfl (lv_at hl 3 rfl) ?_
          refine z_callVl (As := [.int (nI nn), .int (nI i)]) C hz hS hA hl (k_X8_cellOf l D cy fL3 o wev wnb wki wmy wce wiw wli wha wwt wfy wfk wem wna wpl whs wk1 wk2 wk3 u1 u2 u3 nl nn nf nc lk ks gc nn i a5 a8 (by omega)) zyX8_cellOf mMX8_90 a5 zl8 rfl rfl (Nat.le_of_ble_eq_true rfl) ⟨Nat.le_of_ble_eq_true rfl, Nat.le_of_ble_eq_true rfl⟩ ⟨Nat.le_of_ble_eq_true rfl, Nat.le_of_ble_eq_true rfl⟩ dX8_hashOf_44 (fun r f13 H locs h14 hz hS => ?_)
          obtain ⟨rfl, k15⟩ := h14
          refine lv_lstore (lv' := [(4, .long (gc (16 * nn + i))), (0, .ref o), (1, .int (nI nn)), (2, .int hv), (3, .int (nI i))]) hx hb dX8_hashOf_47 hl (by decide) rfl (fun ls hl => ?_)
          refine lv_bipush (v := 31) hx hb dX8_hashOf_49 (by decide) ?_
          refine lv_iload_n hx hb dX8_hashOf_51 rfl (lv_at hl 3 rfl) ?_
          refine lv_imul hx hb dX8_hashOf_52 ?_
          refine lv_aload_n hx hb dX8_hashOf_53 rfl (lv_at hl 1 rfl) ?_
          refine lv_iload_n hx hb dX8_hashOf_54 rfl (lv_at hl 2 rfl) ?_
          have a16 : f13 o = some (.inr (8, [.int u1, .int u2, .int u3, .ref wev, .int (nI nl), .ref wnb, .int (nI nn), .ref wki, .ref wmy, .ref wce, .ref wiw, .ref wli, .ref wha, .ref wwt, .int (nI nf), .ref wfy, .ref wfk, .int (nI nc), .ref wem, .ref wna, .ref wpl, .ref whs, .long lk, .int (nI ks), .ref wk1, .ref wk2, .ref wk3])) := k15 _ _ a5 
          have a17 : f13 wki = some (.inl (cy 0, 60, .inl gk)) := k15 _ _ a6 
          refine z_callVi (As := [.int (nI nn)]) C hz hS hA hl (k_X8_isFigurePart l D cy f13 o wev wnb wki wmy wce wiw wli wha wwt wfy wfk wem wna wpl whs wk1 wk2 wk3 u1 u2 u3 nl nn nf nc lk ks gk nn a16 a17 hn59) zyX8_isFigurePart mMX8_86 a16 zl8 rfl rfl (Nat.le_of_ble_eq_true rfl) ⟨Nat.le_of_ble_eq_true rfl, Nat.le_of_ble_eq_true rfl⟩ ⟨Nat.le_of_ble_eq_true rfl, Nat.le_of_ble_eq_true rfl⟩ dX8_hashOf_55 (fun r f18 H locs h19 hz hS => ?_)
          obtain ⟨rfl, k20⟩ := h19
          refine lv_if_eq (tgt := 85) hx hb dX8_hashOf_58 (by decide) (fun c21 => ?_) (fun c21 => ?_)
          · have hk4n : ¬ gk nn = 4 := fun h9 => by
              rw [if_pos h9] at c21
              exact absurd c21 (by decide)
            refine lv_lload hx hb dX8_hashOf_85 (lv_at hl 0 rfl) ?_
            refine z_callSi (As := [.long (gc (16 * nn + i))]) C hz hS hA hl (k_X8_folded l D cy f18 (gc (16 * nn + i))  ) zyX8_folded mMX8_100 rfl rfl (Nat.le_of_ble_eq_true rfl) ⟨Nat.le_of_ble_eq_true rfl, Nat.le_of_ble_eq_true rfl⟩ ⟨Nat.le_of_ble_eq_true rfl, Nat.le_of_ble_eq_true rfl⟩ dX8_hashOf_87 (fun r f22 H locs h23 hz hS => ?_)
            obtain ⟨rfl, k24⟩ := h23
            refine lv_iadd hx hb dX8_hashOf_90 ?_
            refine lv_istore_n (lv' := [(2, .int ((31 * hv) + (zFO (gc (16 * nn + i))))), (4, .long (gc (16 * nn + i))), (0, .ref o), (1, .int (nI nn)), (3, .int (nI i))]) hx hb dX8_hashOf_91 rfl hl (by decide) rfl (fun ls hl => ?_)
            refine lv_iinc (v := nI (i + 1)) (lv' := [(3, .int (nI (i + 1))), (2, .int ((31 * hv) + (zFO (gc (16 * nn + i))))), (4, .long (gc (16 * nn + i))), (0, .ref o), (1, .int (nI nn))]) hx hb dX8_hashOf_92 hl (k := 4) rfl (nI_1 i) (by decide) rfl (fun ls hl => ?_)
            refine lv_goto (tgt := 31) hx hb dX8_hashOf_95 (by decide) ?_
            have a25 : f18 o = some (.inr (8, [.int u1, .int u2, .int u3, .ref wev, .int (nI nl), .ref wnb, .int (nI nn), .ref wki, .ref wmy, .ref wce, .ref wiw, .ref wli, .ref wha, .ref wwt, .int (nI nf), .ref wfy, .ref wfk, .int (nI nc), .ref wem, .ref wna, .ref wpl, .ref whs, .long lk, .int (nI ks), .ref wk1, .ref wk2, .ref wk3])) := k20 _ _ a16 
            have a26 : f22 o = some (.inr (8, [.int u1, .int u2, .int u3, .ref wev, .int (nI nl), .ref wnb, .int (nI nn), .ref wki, .ref wmy, .ref wce, .ref wiw, .ref wli, .ref wha, .ref wwt, .int (nI nf), .ref wfy, .ref wfk, .int (nI nc), .ref wem, .ref wna, .ref wpl, .ref whs, .long lk, .int (nI ks), .ref wk1, .ref wk2, .ref wk3])) := k24 _ _ a25 
            have a27 : f18 wki = some (.inl (cy 0, 60, .inl gk)) := k20 _ _ a17 
            have a28 : f22 wki = some (.inl (cy 0, 60, .inl gk)) := k24 _ _ a27 
            have a29 : f13 wmy = some (.inl (cy 0, 60, .inl gm)) := k15 _ _ a7 
            have a30 : f18 wmy = some (.inl (cy 0, 60, .inl gm)) := k20 _ _ a29 
            have a31 : f22 wmy = some (.inl (cy 0, 60, .inl gm)) := k24 _ _ a30 
            have a32 : f13 wce = some (.inl (cy 1, 960, .inr (.inl gc))) := k15 _ _ a8 
            have a33 : f18 wce = some (.inl (cy 1, 960, .inr (.inl gc))) := k20 _ _ a32 
            have a34 : f22 wce = some (.inl (cy 1, 960, .inr (.inl gc))) := k24 _ _ a33 
            have a35 : f13 wha = some (.inl (cy 0, 60, .inl gh)) := k15 _ _ a9 
            have a36 : f18 wha = some (.inl (cy 0, 60, .inl gh)) := k20 _ _ a35 
            have a37 : f22 wha = some (.inl (cy 0, 60, .inl gh)) := k24 _ _ a36 
            exact ih ((31 * hv) + (zFO (gc (16 * nn + i)))) (i + 1) _ _ _ _ (by omega) (by omega) (zHF_m (gp := fun k => gc (16 * nn + k)) (i := i) hk4n hhv) a26 a28 a31 a34 a37 (by
                  intro b e hb 
                  have hb0 : fL3 b = some e := k4 b e hb 
                  have hb1 : f13 b = some e := k15 b e hb0 
                  have hb2 : f18 b = some e := k20 b e hb1 
                  have hb3 : f22 b = some e := k24 b e hb2 
                  exact hb3) hz hS (lv_sub hl [3, 4, 1, 0] rfl)
          · have hk4 : gk nn = 4 := by
              by_cases h9 : gk nn = 4
              · exact h9
              · exact absurd (by rw [if_neg h9]) c21
            refine lv_lload hx hb dX8_hashOf_61 (lv_at hl 0 rfl) ?_
            refine lv_ldc2 (v := (-1)) hx hb C.2.2.2.1 (C.2.2.2.2.1 _ mKX8_98) dX8_hashOf_63 ?_
            refine W.lcmp hx hb dX8_hashOf_66 ?_
            refine lv_if_ne (tgt := 74) hx hb dX8_hashOf_67 (by decide) (fun c38 => ?_) (fun c38 => ?_)
            · obtain ⟨jr, hjr, hvr⟩ : ∃ j9, j9 < nn ∧ gc (16 * nn + i) = lN j9 := by
                rcases hrf hk4 i (by omega) with h9 | h9
                · exact absurd ((lg_cmp_eq _ _).mpr h9) c38
                · exact h9
              refine lv_aload_n hx hb dX8_hashOf_74 rfl (lv_at hl 1 rfl) ?_
              have a39 : f18 o = some (.inr (8, [.int u1, .int u2, .int u3, .ref wev, .int (nI nl), .ref wnb, .int (nI nn), .ref wki, .ref wmy, .ref wce, .ref wiw, .ref wli, .ref wha, .ref wwt, .int (nI nf), .ref wfy, .ref wfk, .int (nI nc), .ref wem, .ref wna, .ref wpl, .ref whs, .long lk, .int (nI ks), .ref wk1, .ref wk2, .ref wk3])) := k20 _ _ a16 
              refine z_get (v := .ref wha) C hz a39 zl8 mFX8_37 (by decide) rfl dX8_hashOf_75 ?_
              refine lv_lload hx hb dX8_hashOf_78 (lv_at hl 0 rfl) ?_
              refine lv_l2i (v := (gc (16 * nn + i)).toInt32) hx hb dX8_hashOf_80 rfl ?_
              have a40 : f13 wha = some (.inl (cy 0, 60, .inl gh)) := k15 _ _ a9 
              have a41 : f18 wha = some (.inl (cy 0, 60, .inl gh)) := k20 _ _ a40 
              refine z_iald jr C hz a41 (by rw [hvr]; exact lN_i jr) (by omega) (by omega) dX8_hashOf_81 ?_
              refine lv_goto (tgt := 90) hx hb dX8_hashOf_82 (by decide) ?_
              refine lv_iadd hx hb dX8_hashOf_90 ?_
              refine lv_istore_n (lv' := [(2, .int ((31 * hv) + (gh jr))), (4, .long (gc (16 * nn + i))), (0, .ref o), (1, .int (nI nn)), (3, .int (nI i))]) hx hb dX8_hashOf_91 rfl hl (by decide) rfl (fun ls hl => ?_)
              refine lv_iinc (v := nI (i + 1)) (lv' := [(3, .int (nI (i + 1))), (2, .int ((31 * hv) + (gh jr))), (4, .long (gc (16 * nn + i))), (0, .ref o), (1, .int (nI nn))]) hx hb dX8_hashOf_92 hl (k := 4) rfl (nI_1 i) (by decide) rfl (fun ls hl => ?_)
              refine lv_goto (tgt := 31) hx hb dX8_hashOf_95 (by decide) ?_
              have a42 : f18 wki = some (.inl (cy 0, 60, .inl gk)) := k20 _ _ a17 
              have a43 : f13 wmy = some (.inl (cy 0, 60, .inl gm)) := k15 _ _ a7 
              have a44 : f18 wmy = some (.inl (cy 0, 60, .inl gm)) := k20 _ _ a43 
              have a45 : f13 wce = some (.inl (cy 1, 960, .inr (.inl gc))) := k15 _ _ a8 
              have a46 : f18 wce = some (.inl (cy 1, 960, .inr (.inl gc))) := k20 _ _ a45 
              exact ih ((31 * hv) + (gh jr)) (i + 1) _ _ _ _ (by omega) (by omega) (zHF_p0 (gp := fun k => gc (16 * nn + k)) (i := i) hk4 hhv (hN_t (by omega) hjr hvr)) a39 a42 a44 a46 a41 (by
                    intro b e hb 
                    have hb0 : fL3 b = some e := k4 b e hb 
                    have hb1 : f13 b = some e := k15 b e hb0 
                    have hb2 : f18 b = some e := k20 b e hb1 
                    exact hb2) hz hS (lv_sub hl [3, 4, 1, 0] rfl)
            · have hvm : gc (16 * nn + i) = (-1) := (lg_cmp_eq _ _).mp c38
              refine lv_iconst (v := 0) hx hb dX8_hashOf_70 (by decide) ?_
              refine lv_goto (tgt := 90) hx hb dX8_hashOf_71 (by decide) ?_
              refine lv_iadd hx hb dX8_hashOf_90 ?_
              refine lv_istore_n (lv' := [(2, .int ((31 * hv) + 0)), (4, .long (gc (16 * nn + i))), (0, .ref o), (1, .int (nI nn)), (3, .int (nI i))]) hx hb dX8_hashOf_91 rfl hl (by decide) rfl (fun ls hl => ?_)
              refine lv_iinc (v := nI (i + 1)) (lv' := [(3, .int (nI (i + 1))), (2, .int ((31 * hv) + 0)), (4, .long (gc (16 * nn + i))), (0, .ref o), (1, .int (nI nn))]) hx hb dX8_hashOf_92 hl (k := 4) rfl (nI_1 i) (by decide) rfl (fun ls hl => ?_)
              refine lv_goto (tgt := 31) hx hb dX8_hashOf_95 (by decide) ?_
              have a47 : f18 o = some (.inr (8, [.int u1, .int u2, .int u3, .ref wev, .int (nI nl), .ref wnb, .int (nI nn), .ref wki, .ref wmy, .ref wce, .ref wiw, .ref wli, .ref wha, .ref wwt, .int (nI nf), .ref wfy, .ref wfk, .int (nI nc), .ref wem, .ref wna, .ref wpl, .ref whs, .long lk, .int (nI ks), .ref wk1, .ref wk2, .ref wk3])) := k20 _ _ a16 
              have a48 : f18 wki = some (.inl (cy 0, 60, .inl gk)) := k20 _ _ a17 
              have a49 : f13 wmy = some (.inl (cy 0, 60, .inl gm)) := k15 _ _ a7 
              have a50 : f18 wmy = some (.inl (cy 0, 60, .inl gm)) := k20 _ _ a49 
              have a51 : f13 wce = some (.inl (cy 1, 960, .inr (.inl gc))) := k15 _ _ a8 
              have a52 : f18 wce = some (.inl (cy 1, 960, .inr (.inl gc))) := k20 _ _ a51 
              have a53 : f13 wha = some (.inl (cy 0, 60, .inl gh)) := k15 _ _ a9 
              have a54 : f18 wha = some (.inl (cy 0, 60, .inl gh)) := k20 _ _ a53 
              exact ih ((31 * hv) + 0) (i + 1) _ _ _ _ (by omega) (by omega) (zHF_p0 (gp := fun k => gc (16 * nn + k)) (i := i) hk4 hhv (hN_m (by omega) hvm)) a47 a48 a50 a52 a54 (by
                    intro b e hb 
                    have hb0 : fL3 b = some e := k4 b e hb 
                    have hb1 : f13 b = some e := k15 b e hb0 
                    have hb2 : f18 b = some e := k20 b e hb1 
                    exact hb2) hz hS (lv_sub hl [3, 4, 1, 0] rfl)
    exact lp2 (t - 0 + 1) (gk nn) 0 _ _ _ _ (Nat.lt_succ_self _) (by omega) rfl p0 p1 p2 p3 p4 (fun b e hb => hb) hz hS (lv_sub hl [2, 3, 1, 0] rfl)
  · refine lv_bipush (v := 31) hx hb dX8_hashOf_18 (by decide) ?_
    refine lv_iload_n hx hb dX8_hashOf_20 rfl (lv_at hl 0 rfl) ?_
    refine lv_imul hx hb dX8_hashOf_21 ?_
    refine lv_iload_n hx hb dX8_hashOf_22 rfl (lv_at hl 2 rfl) ?_
    refine lv_i2l (v := (nI nn).toInt64) hx hb dX8_hashOf_23 rfl ?_
    refine z_callSi (As := [.long ((nI nn).toInt64)]) C hz hS hA hl (k_X8_folded l D cy f ((nI nn).toInt64)  ) zyX8_folded mMX8_100 rfl rfl (Nat.le_of_ble_eq_true rfl) ⟨Nat.le_of_ble_eq_true rfl, Nat.le_of_ble_eq_true rfl⟩ ⟨Nat.le_of_ble_eq_true rfl, Nat.le_of_ble_eq_true rfl⟩ dX8_hashOf_24 (fun r f55 H locs h56 hz hS => ?_)
    obtain ⟨rfl, k57⟩ := h56
    refine lv_iadd hx hb dX8_hashOf_27 ?_
    exact z_iret C hr rfl hz hS ⟨(by rw [zHash, if_pos c1, zFO_n nn hn59]), (by
          intro b e hb 
          have hb0 : f55 b = some e := k57 b e hb 
          exact hb0)⟩ (Nat.le_of_ble_eq_true rfl) (Nat.le_of_ble_eq_true rfl) dX8_hashOf_28
theorem zLE_st {gk gl : Nat → Int32} {gc : Nat → Int64} {o f k : Nat} (h : ∀ i, i < k → zLE gk gl gc o f i) (h1 : zLE gk gl gc o f k) : ∀ i, i < k + 1 → zLE gk gl gc o f i := by
  intro i hi
  by_cases e : i = k
  · subst e
    exact h1
  · exact h i (by omega)
theorem zLC_st {gk gl : Nat → Int32} {gc : Nat → Int64} {ln : Nat → Nat} {f t oo : Nat} (h : ∀ o, o < oo → ¬ zLC1 gk gl gc ln f t o) (h1 : ¬ zLC1 gk gl gc ln f t oo) : ∀ o, o < oo + 1 → ¬ zLC1 gk gl gc ln f t o := by
  intro i hi
  by_cases e : i = oo
  · subst e
    exact h1
  · exact h i (by omega)
abbrev rmX8_leastLike : Room := { frames := 1, cells := 0, slots := 0, locals := 22 }
set_option maxHeartbeats 4000000 in
set_option maxRecDepth 100000 in
theorem k_X8_leastLike (l : Launch) (D : va_G) (cy : Nat → ClassId) (f : zM) (o : Nat) (wev : Nat) (wnb : Nat) (wki : Nat) (wmy : Nat) (wce : Nat) (wiw : Nat) (wli : Nat) (wha : Nat) (wwt : Nat) (wfy : Nat) (wfk : Nat) (wem : Nat) (wna : Nat) (wpl : Nat) (whs : Nat) (wk1 : Nat) (wk2 : Nat) (wk3 : Nat) (u1 : Int32) (u2 : Int32) (u3 : Int32) (nl : Nat) (nn : Nat) (nf : Nat) (nc : Nat) (lk : Int64) (ks : Nat) (gk : Nat → Int32) (gm : Nat → Int32) (gc : Nat → Int64) (gl : Nat → Int32) (ln : Nat → Nat) (t : Nat) (p0 : f o = some (.inr (8, [.int u1, .int u2, .int u3, .ref wev, .int (nI nl), .ref wnb, .int (nI nn), .ref wki, .ref wmy, .ref wce, .ref wiw, .ref wli, .ref wha, .ref wwt, .int (nI nf), .ref wfy, .ref wfk, .int (nI nc), .ref wem, .ref wna, .ref wpl, .ref whs, .long lk, .int (nI ks), .ref wk1, .ref wk2, .ref wk3]))) (p1 : f wki = some (.inl (cy 0, 60, .inl gk))) (p2 : f wmy = some (.inl (cy 0, 60, .inl gm))) (p3 : f wce = some (.inl (cy 1, 960, .inr (.inl gc)))) (p4 : f wli = some (.inl (cy 0, 60, .inl gl)))  (hn59 : nn < 60) (hMP : zMP nn gk gm gc ln) (hmt : gm nn = nI t) (ht : t ≤ 15) (hrf : gk nn = 4 → ∀ k, k < t → gc (16 * nn + k) = (-1) ∨ ∃ j9, j9 < nn ∧ gc (16 * nn + k) = lN j9) : zCi l D cy yX8_leastLike cX8_leastLike 5 (Option.some Jvm.ClassFile.FieldType.int) rmX8_leastLike [.ref o, .int (nI nn)] f (fun (r : Int32) (f1 : zM) => ∃ (jl : Nat), r = (nI jl) ∧ (jl ≤ nn) ∧ (jl < nn → zLC1 gk gl gc ln nn t jl) ∧ (∀ o, o < jl → ¬ zLC1 gk gl gc ln nn t o) ∧ (∀ (b : Nat) (e : va_E), f b = some e → f1 b = some e)) := by
  intro sz
  refine z_body (by decide +kernel) (Nat.le_of_ble_eq_true rfl) ?_
  intro p e s m below meth c ls C hr hin hsz hz hl
  subst hsz
  have hx := C.1
  have hb := C.2.1
  have hA : ∀ q, s.heap.size ≤ q → zA f s.heap.size q := fun q h => Or.inr h
  have hS : va_S (zA f s.heap.size) s.heap s.heap [] := va_S.rf
  have hl : lv_has ls 5 [(0, .ref o), (1, .int (nI nn))] := hl
  refine lv_iconst (v := 0) hx hb dX8_leastLike_0 (by decide) ?_
  refine lv_istore_n (lv' := [(2, .int 0), (0, .ref o), (1, .int (nI nn))]) hx hb dX8_leastLike_1 rfl hl (by decide) rfl (fun ls hl => ?_)
  have lp1 : ∀ (n : Nat) (oo : Nat) (fL2 : zM) (H : Heap) (locs : List Loc) (ls : Array Slot), (nn - oo) < n → (oo ≤ nn) → (∀ o, o < oo → ¬ zLC1 gk gl gc ln nn t o) → fL2 o = some (.inr (8, [.int u1, .int u2, .int u3, .ref wev, .int (nI nl), .ref wnb, .int (nI nn), .ref wki, .ref wmy, .ref wce, .ref wiw, .ref wli, .ref wha, .ref wwt, .int (nI nf), .ref wfy, .ref wfk, .int (nI nc), .ref wem, .ref wna, .ref wpl, .ref whs, .long lk, .int (nI ks), .ref wk1, .ref wk2, .ref wk3])) → fL2 wki = some (.inl (cy 0, 60, .inl gk)) → fL2 wmy = some (.inl (cy 0, 60, .inl gm)) → fL2 wce = some (.inl (cy 1, 960, .inr (.inl gc))) → fL2 wli = some (.inl (cy 0, 60, .inl gl)) → (∀ (b : Nat) (e : va_E), f b = some e → fL2 b = some e) → zH D (zA f s.heap.size) fL2 H → va_S (zA f s.heap.size) s.heap H locs → lv_has ls 5 [(0, .ref o), (1, .int (nI nn)), (2, .int (nI oo))] → W p l e rmX8_leastLike s m ([.ref o, .int (nI nn)] : List Value).toArray below meth c H locs 0 0 (MQ below (va_Qi (fun (r : Int32) (f1 : zM) => ∃ (jl : Nat), r = (nI jl) ∧ (jl ≤ nn) ∧ (jl < nn → zLC1 gk gl gc ln nn t jl) ∧ (∀ o, o < jl → ¬ zLC1 gk gl gc ln nn t o) ∧ (∀ (b : Nat) (e : va_E), f b = some e → f1 b = some e)) (zB D f s.heap.size) (zA f s.heap.size)) ([.ref o, .int (nI nn)] : List Value).toArray s rmX8_leastLike.cells rmX8_leastLike.slots (zA f s.heap.size)) (F0 m 2 ls []) := by
    intro n
    induction n with
    | zero => intro oo fL2 H locs ls hmz; exact absurd hmz (Nat.not_lt_zero _)
    | succ n_3 ih_3 =>
      intro oo fL2 H locs ls hmz_3 hio hno a5 a6 a7 a8 a9 k4 hz hS hl
      refine lv_iload_n hx hb dX8_leastLike_2 rfl (lv_at hl 2 rfl) ?_
      refine lv_iload_n hx hb dX8_leastLike_3 rfl (lv_at hl 1 rfl) ?_
      refine lv_icmp_ge (tgt := 155) hx hb dX8_leastLike_4 (by decide) (fun c10 => ?_) (fun c10 => ?_)
      · replace c10 : (nn ≤ oo) := (nI_leI (a := nn) (b := oo) (by omega) (by omega)).mp c10
        refine lv_iload_n hx hb dX8_leastLike_155 rfl (lv_at hl 1 rfl) ?_
        exact z_iret C hr rfl hz hS ⟨nn, rfl, (by omega), (fun h9 => absurd h9 (Nat.lt_irrefl _)), (fun o9 h9 => hno o9 (by omega)), (by
              intro b e hb 
              have hb0 : fL2 b = some e := k4 b e hb 
              exact hb0)⟩ (Nat.le_of_ble_eq_true rfl) (Nat.le_of_ble_eq_true rfl) dX8_leastLike_156
      · replace c10 : ¬ (nn ≤ oo) := fun h => c10 ((nI_leI (a := nn) (b := oo) (by omega) (by omega)).mpr h)
        refine lv_aload_n hx hb dX8_leastLike_7 rfl (lv_at hl 0 rfl) ?_
        refine z_get (v := .ref wki) C hz a5 zl8 mFX8_20 (by decide) rfl dX8_leastLike_8 ?_
        refine lv_iload_n hx hb dX8_leastLike_11 rfl (lv_at hl 2 rfl) ?_
        refine z_iald oo C hz a6 rfl (by omega) (by omega) dX8_leastLike_12 ?_
        refine lv_aload_n hx hb dX8_leastLike_13 rfl (lv_at hl 0 rfl) ?_
        refine z_get (v := .ref wki) C hz a5 zl8 mFX8_20 (by decide) rfl dX8_leastLike_14 ?_
        refine lv_iload_n hx hb dX8_leastLike_17 rfl (lv_at hl 1 rfl) ?_
        refine z_iald nn C hz a6 rfl (by omega) (by omega) dX8_leastLike_18 ?_
        refine lv_icmp_ne (tgt := 52) hx hb dX8_leastLike_19 (by decide) (fun c11 => ?_) (fun c11 => ?_)
        · refine lv_iconst (v := 0) hx hb dX8_leastLike_52 (by decide) ?_
          refine lv_istore_n (lv' := [(3, .int 0), (0, .ref o), (1, .int (nI nn)), (2, .int (nI oo))]) hx hb dX8_leastLike_53 rfl hl (by decide) rfl (fun ls hl => ?_)
          refine lv_iconst (v := 0) hx hb dX8_leastLike_54 (by decide) ?_
          refine lv_istore (lv' := [(4, .int 0), (3, .int 0), (0, .ref o), (1, .int (nI nn)), (2, .int (nI oo))]) hx hb dX8_leastLike_55 hl (by decide) rfl (fun ls hl => ?_)
          have lp12 : ∀ (n : Nat) (kx : Nat) (isv : Int32) (fL13 : zM) (H : Heap) (locs : List Loc) (ls : Array Slot), (t - kx) < n → (kx ≤ t) → (¬ isv = 0 → gk oo = gk nn ∧ ¬ gk nn = 6 ∧ ln oo = t ∧ ∀ k, k < kx → zLE gk gl gc oo nn k) → (isv = 0 → ¬ zLC1 gk gl gc ln nn t oo) → fL13 o = some (.inr (8, [.int u1, .int u2, .int u3, .ref wev, .int (nI nl), .ref wnb, .int (nI nn), .ref wki, .ref wmy, .ref wce, .ref wiw, .ref wli, .ref wha, .ref wwt, .int (nI nf), .ref wfy, .ref wfk, .int (nI nc), .ref wem, .ref wna, .ref wpl, .ref whs, .long lk, .int (nI ks), .ref wk1, .ref wk2, .ref wk3])) → fL13 wki = some (.inl (cy 0, 60, .inl gk)) → fL13 wmy = some (.inl (cy 0, 60, .inl gm)) → fL13 wce = some (.inl (cy 1, 960, .inr (.inl gc))) → fL13 wli = some (.inl (cy 0, 60, .inl gl)) → (∀ (b : Nat) (e : va_E), fL2 b = some e → fL13 b = some e) → zH D (zA f s.heap.size) fL13 H → va_S (zA f s.heap.size) s.heap H locs → lv_has ls 5 [(0, .ref o), (1, .int (nI nn)), (2, .int (nI oo)), (3, .int isv), (4, .int (nI kx))] → W p l e rmX8_leastLike s m ([.ref o, .int (nI nn)] : List Value).toArray below meth c H locs 0 0 (MQ below (va_Qi (fun (r : Int32) (f1 : zM) => ∃ (jl : Nat), r = (nI jl) ∧ (jl ≤ nn) ∧ (jl < nn → zLC1 gk gl gc ln nn t jl) ∧ (∀ o, o < jl → ¬ zLC1 gk gl gc ln nn t o) ∧ (∀ (b : Nat) (e : va_E), f b = some e → f1 b = some e)) (zB D f s.heap.size) (zA f s.heap.size)) ([.ref o, .int (nI nn)] : List Value).toArray s rmX8_leastLike.cells rmX8_leastLike.slots (zA f s.heap.size)) (F0 m 57 ls []) := by
            intro n
            induction n with
            | zero => intro kx isv fL13 H locs ls hmz; exact absurd hmz (Nat.not_lt_zero _)
            | succ n_14 ih_14 =>
              intro kx isv fL13 H locs ls hmz_14 hik hT hF a16 a17 a18 a19 a20 k15 hz hS hl
              refine lv_iload_n hx hb dX8_leastLike_57 rfl (lv_at hl 3 rfl) ?_
              refine lv_if_eq (tgt := 143) hx hb dX8_leastLike_58 (by decide) (fun c21 => ?_) (fun c21 => ?_)
              · have hnC := hF c21
                refine lv_iload_n hx hb dX8_leastLike_143 rfl (lv_at hl 3 rfl) ?_
                refine lv_if_eq (tgt := 149) hx hb dX8_leastLike_144 (by decide) (fun c22 => ?_) (fun c22 => ?_)
                rotate_left
                · exact absurd c21 c22
                refine lv_iinc (v := nI (oo + 1)) (lv' := [(2, .int (nI (oo + 1))), (0, .ref o), (1, .int (nI nn)), (3, .int isv), (4, .int (nI kx))]) hx hb dX8_leastLike_149 hl (k := 2) rfl (nI_1 oo) (by decide) rfl (fun ls hl => ?_)
                refine lv_goto (tgt := 2) hx hb dX8_leastLike_152 (by decide) ?_
                exact ih_3 (oo + 1) _ _ _ _ (by omega) (by omega) (zLC_st hno hnC) a16 a17 a18 a19 a20 (by
                      intro b e hb 
                      have hb0 : fL2 b = some e := k4 b e hb 
                      have hb1 : fL13 b = some e := k15 b e hb0 
                      exact hb1) hz hS (lv_sub hl [1, 2, 0] rfl)
              · obtain ⟨hke, h6, hlo, hE⟩ := hT c21
                refine lv_iload hx hb dX8_leastLike_61 (lv_at hl 4 rfl) ?_
                refine lv_aload_n hx hb dX8_leastLike_63 rfl (lv_at hl 0 rfl) ?_
                refine z_get (v := .ref wmy) C hz a16 zl8 mFX8_23 (by decide) rfl dX8_leastLike_64 ?_
                refine lv_iload_n hx hb dX8_leastLike_67 rfl (lv_at hl 1 rfl) ?_
                refine z_iald nn C hz a18 rfl (by omega) (by omega) dX8_leastLike_68 ?_
                refine lv_topi (fun y23 e24 => ?_)
                obtain rfl : y23 = nI t := e24.trans hmt
                refine lv_icmp_ge (tgt := 143) hx hb dX8_leastLike_69 (by decide) (fun c25 => ?_) (fun c25 => ?_)
                · replace c25 : (t ≤ kx) := (nI_leI (a := t) (b := kx) (by omega) (by omega)).mp c25
                  have hC : zLC1 gk gl gc ln nn t oo := ⟨hke, h6, hlo, fun k9 h9 => hE k9 (by omega)⟩
                  refine lv_iload_n hx hb dX8_leastLike_143 rfl (lv_at hl 3 rfl) ?_
                  refine lv_if_eq (tgt := 149) hx hb dX8_leastLike_144 (by decide) (fun c26 => ?_) (fun c26 => ?_)
                  · exact absurd c26 c21
                  refine lv_iload_n hx hb dX8_leastLike_147 rfl (lv_at hl 2 rfl) ?_
                  exact z_iret C hr rfl hz hS ⟨oo, rfl, (by omega), (fun _ => hC), hno, (by
                        intro b e hb 
                        have hb0 : fL2 b = some e := k4 b e hb 
                        have hb1 : fL13 b = some e := k15 b e hb0 
                        exact hb1)⟩ (Nat.le_of_ble_eq_true rfl) (Nat.le_of_ble_eq_true rfl) dX8_leastLike_148
                · replace c25 : ¬ (t ≤ kx) := fun h => c25 ((nI_leI (a := t) (b := kx) (by omega) (by omega)).mpr h)
                  refine lv_aload_n hx hb dX8_leastLike_72 rfl (lv_at hl 0 rfl) ?_
                  refine lv_iload_n hx hb dX8_leastLike_73 rfl (lv_at hl 1 rfl) ?_
                  refine z_callVi (As := [.int (nI nn)]) C hz hS hA hl (k_X8_isFigurePart l D cy fL13 o wev wnb wki wmy wce wiw wli wha wwt wfy wfk wem wna wpl whs wk1 wk2 wk3 u1 u2 u3 nl nn nf nc lk ks gk nn a16 a17 (by omega)) zyX8_isFigurePart mMX8_86 a16 zl8 rfl rfl (Nat.le_of_ble_eq_true rfl) ⟨Nat.le_of_ble_eq_true rfl, Nat.le_of_ble_eq_true rfl⟩ ⟨Nat.le_of_ble_eq_true rfl, Nat.le_of_ble_eq_true rfl⟩ dX8_leastLike_74 (fun r f27 H locs h28 hz hS => ?_)
                  obtain ⟨rfl, k29⟩ := h28
                  refine lv_if_eq (tgt := 113) hx hb dX8_leastLike_77 (by decide) (fun c30 => ?_) (fun c30 => ?_)
                  · have hkn0 : ¬ gk nn = 4 := fun h9 => by
                      rw [if_pos h9] at c30
                      exact absurd c30 (by decide)
                    refine lv_aload_n hx hb dX8_leastLike_113 rfl (lv_at hl 0 rfl) ?_
                    refine lv_iload_n hx hb dX8_leastLike_114 rfl (lv_at hl 2 rfl) ?_
                    refine lv_iload hx hb dX8_leastLike_115 (lv_at hl 4 rfl) ?_
                    have a31 : f27 o = some (.inr (8, [.int u1, .int u2, .int u3, .ref wev, .int (nI nl), .ref wnb, .int (nI nn), .ref wki, .ref wmy, .ref wce, .ref wiw, .ref wli, .ref wha, .ref wwt, .int (nI nf), .ref wfy, .ref wfk, .int (nI nc), .ref wem, .ref wna, .ref wpl, .ref whs, .long lk, .int (nI ks), .ref wk1, .ref wk2, .ref wk3])) := k29 _ _ a16 
                    have a32 : f27 wce = some (.inl (cy 1, 960, .inr (.inl gc))) := k29 _ _ a19 
                    refine z_callVl (As := [.int (nI oo), .int (nI kx)]) C hz hS hA hl (k_X8_cellOf l D cy f27 o wev wnb wki wmy wce wiw wli wha wwt wfy wfk wem wna wpl whs wk1 wk2 wk3 u1 u2 u3 nl nn nf nc lk ks gc oo kx a31 a32 (by omega)) zyX8_cellOf mMX8_90 a31 zl8 rfl rfl (Nat.le_of_ble_eq_true rfl) ⟨Nat.le_of_ble_eq_true rfl, Nat.le_of_ble_eq_true rfl⟩ ⟨Nat.le_of_ble_eq_true rfl, Nat.le_of_ble_eq_true rfl⟩ dX8_leastLike_117 (fun r f33 H locs h34 hz hS => ?_)
                    obtain ⟨rfl, k35⟩ := h34
                    refine lv_aload_n hx hb dX8_leastLike_120 rfl (lv_at hl 0 rfl) ?_
                    refine lv_iload_n hx hb dX8_leastLike_121 rfl (lv_at hl 1 rfl) ?_
                    refine lv_iload hx hb dX8_leastLike_122 (lv_at hl 4 rfl) ?_
                    have a36 : f33 o = some (.inr (8, [.int u1, .int u2, .int u3, .ref wev, .int (nI nl), .ref wnb, .int (nI nn), .ref wki, .ref wmy, .ref wce, .ref wiw, .ref wli, .ref wha, .ref wwt, .int (nI nf), .ref wfy, .ref wfk, .int (nI nc), .ref wem, .ref wna, .ref wpl, .ref whs, .long lk, .int (nI ks), .ref wk1, .ref wk2, .ref wk3])) := k35 _ _ a31 
                    have a37 : f33 wce = some (.inl (cy 1, 960, .inr (.inl gc))) := k35 _ _ a32 
                    refine z_callVl (As := [.int (nI nn), .int (nI kx)]) C hz hS hA hl (k_X8_cellOf l D cy f33 o wev wnb wki wmy wce wiw wli wha wwt wfy wfk wem wna wpl whs wk1 wk2 wk3 u1 u2 u3 nl nn nf nc lk ks gc nn kx a36 a37 (by omega)) zyX8_cellOf mMX8_90 a36 zl8 rfl rfl (Nat.le_of_ble_eq_true rfl) ⟨Nat.le_of_ble_eq_true rfl, Nat.le_of_ble_eq_true rfl⟩ ⟨Nat.le_of_ble_eq_true rfl, Nat.le_of_ble_eq_true rfl⟩ dX8_leastLike_124 (fun r f38 H locs h39 hz hS => ?_)
                    obtain ⟨rfl, k40⟩ := h39
                    refine W.lcmp hx hb dX8_leastLike_127 ?_
                    refine lv_if_ne (tgt := 135) hx hb dX8_leastLike_128 (by decide) (fun c41 => ?_) (fun c41 => ?_)
                    · refine lv_iconst (v := 0) hx hb dX8_leastLike_135 (by decide) ?_
                      refine lv_istore_n (lv' := [(3, .int 0), (0, .ref o), (1, .int (nI nn)), (2, .int (nI oo)), (4, .int (nI kx))]) hx hb dX8_leastLike_136 rfl hl (by decide) rfl (fun ls hl => ?_)
                      refine lv_iinc (v := nI (kx + 1)) (lv' := [(4, .int (nI (kx + 1))), (3, .int 0), (0, .ref o), (1, .int (nI nn)), (2, .int (nI oo))]) hx hb dX8_leastLike_137 hl (k := 4) rfl (nI_1 kx) (by decide) rfl (fun ls hl => ?_)
                      refine lv_goto (tgt := 57) hx hb dX8_leastLike_140 (by decide) ?_
                      have a42 : f38 o = some (.inr (8, [.int u1, .int u2, .int u3, .ref wev, .int (nI nl), .ref wnb, .int (nI nn), .ref wki, .ref wmy, .ref wce, .ref wiw, .ref wli, .ref wha, .ref wwt, .int (nI nf), .ref wfy, .ref wfk, .int (nI nc), .ref wem, .ref wna, .ref wpl, .ref whs, .long lk, .int (nI ks), .ref wk1, .ref wk2, .ref wk3])) := k40 _ _ a36 
                      have a43 : f27 wki = some (.inl (cy 0, 60, .inl gk)) := k29 _ _ a17 
                      have a44 : f33 wki = some (.inl (cy 0, 60, .inl gk)) := k35 _ _ a43 
                      have a45 : f38 wki = some (.inl (cy 0, 60, .inl gk)) := k40 _ _ a44 
                      have a46 : f27 wmy = some (.inl (cy 0, 60, .inl gm)) := k29 _ _ a18 
                      have a47 : f33 wmy = some (.inl (cy 0, 60, .inl gm)) := k35 _ _ a46 
                      have a48 : f38 wmy = some (.inl (cy 0, 60, .inl gm)) := k40 _ _ a47 
                      have a49 : f38 wce = some (.inl (cy 1, 960, .inr (.inl gc))) := k40 _ _ a37 
                      have a50 : f27 wli = some (.inl (cy 0, 60, .inl gl)) := k29 _ _ a20 
                      have a51 : f33 wli = some (.inl (cy 0, 60, .inl gl)) := k35 _ _ a50 
                      have a52 : f38 wli = some (.inl (cy 0, 60, .inl gl)) := k40 _ _ a51 
                      exact ih_14 (kx + 1) 0 _ _ _ _ (by omega) (by omega) (fun h9 => absurd rfl h9) (fun _ c9 => absurd (c9.2.2.2 kx (by omega)) (by rw [zLE, if_neg hkn0]; exact fun h9 => c41 ((lg_cmp_eq _ _).mpr h9))) a42 a45 a48 a49 a52 (by
                            intro b e hb 
                            have hb1 : fL13 b = some e := k15 b e hb 
                            have hb2 : f27 b = some e := k29 b e hb1 
                            have hb3 : f33 b = some e := k35 b e hb2 
                            have hb4 : f38 b = some e := k40 b e hb3 
                            exact hb4) hz hS (lv_sub hl [2, 3, 4, 1, 0] rfl)
                    · refine lv_iconst (v := 1) hx hb dX8_leastLike_131 (by decide) ?_
                      refine lv_goto (tgt := 136) hx hb dX8_leastLike_132 (by decide) ?_
                      refine lv_istore_n (lv' := [(3, .int 1), (0, .ref o), (1, .int (nI nn)), (2, .int (nI oo)), (4, .int (nI kx))]) hx hb dX8_leastLike_136 rfl hl (by decide) rfl (fun ls hl => ?_)
                      refine lv_iinc (v := nI (kx + 1)) (lv' := [(4, .int (nI (kx + 1))), (3, .int 1), (0, .ref o), (1, .int (nI nn)), (2, .int (nI oo))]) hx hb dX8_leastLike_137 hl (k := 4) rfl (nI_1 kx) (by decide) rfl (fun ls hl => ?_)
                      refine lv_goto (tgt := 57) hx hb dX8_leastLike_140 (by decide) ?_
                      have a53 : f38 o = some (.inr (8, [.int u1, .int u2, .int u3, .ref wev, .int (nI nl), .ref wnb, .int (nI nn), .ref wki, .ref wmy, .ref wce, .ref wiw, .ref wli, .ref wha, .ref wwt, .int (nI nf), .ref wfy, .ref wfk, .int (nI nc), .ref wem, .ref wna, .ref wpl, .ref whs, .long lk, .int (nI ks), .ref wk1, .ref wk2, .ref wk3])) := k40 _ _ a36 
                      have a54 : f27 wki = some (.inl (cy 0, 60, .inl gk)) := k29 _ _ a17 
                      have a55 : f33 wki = some (.inl (cy 0, 60, .inl gk)) := k35 _ _ a54 
                      have a56 : f38 wki = some (.inl (cy 0, 60, .inl gk)) := k40 _ _ a55 
                      have a57 : f27 wmy = some (.inl (cy 0, 60, .inl gm)) := k29 _ _ a18 
                      have a58 : f33 wmy = some (.inl (cy 0, 60, .inl gm)) := k35 _ _ a57 
                      have a59 : f38 wmy = some (.inl (cy 0, 60, .inl gm)) := k40 _ _ a58 
                      have a60 : f38 wce = some (.inl (cy 1, 960, .inr (.inl gc))) := k40 _ _ a37 
                      have a61 : f27 wli = some (.inl (cy 0, 60, .inl gl)) := k29 _ _ a20 
                      have a62 : f33 wli = some (.inl (cy 0, 60, .inl gl)) := k35 _ _ a61 
                      have a63 : f38 wli = some (.inl (cy 0, 60, .inl gl)) := k40 _ _ a62 
                      exact ih_14 (kx + 1) 1 _ _ _ _ (by omega) (by omega) (fun _ => ⟨hke, h6, hlo, zLE_st hE (by rw [zLE, if_neg hkn0]; exact (lg_cmp_eq _ _).mp c41)⟩) (fun h9 => absurd h9 (by decide)) a53 a56 a59 a60 a63 (by
                            intro b e hb 
                            have hb1 : fL13 b = some e := k15 b e hb 
                            have hb2 : f27 b = some e := k29 b e hb1 
                            have hb3 : f33 b = some e := k35 b e hb2 
                            have hb4 : f38 b = some e := k40 b e hb3 
                            exact hb4) hz hS (lv_sub hl [2, 3, 4, 1, 0] rfl)
                  · have hkn : gk nn = 4 := by
                      by_cases h9 : gk nn = 4
                      · exact h9
                      · exact absurd (by rw [if_neg h9]) c30
                    have hko : gk oo = 4 := hke.trans hkn
                    refine lv_aload_n hx hb dX8_leastLike_80 rfl (lv_at hl 0 rfl) ?_
                    refine lv_aload_n hx hb dX8_leastLike_81 rfl (lv_at hl 0 rfl) ?_
                    refine lv_iload_n hx hb dX8_leastLike_82 rfl (lv_at hl 2 rfl) ?_
                    refine lv_iload hx hb dX8_leastLike_83 (lv_at hl 4 rfl) ?_
                    have a64 : f27 o = some (.inr (8, [.int u1, .int u2, .int u3, .ref wev, .int (nI nl), .ref wnb, .int (nI nn), .ref wki, .ref wmy, .ref wce, .ref wiw, .ref wli, .ref wha, .ref wwt, .int (nI nf), .ref wfy, .ref wfk, .int (nI nc), .ref wem, .ref wna, .ref wpl, .ref whs, .long lk, .int (nI ks), .ref wk1, .ref wk2, .ref wk3])) := k29 _ _ a16 
                    have a65 : f27 wce = some (.inl (cy 1, 960, .inr (.inl gc))) := k29 _ _ a19 
                    refine z_callVl (As := [.int (nI oo), .int (nI kx)]) C hz hS hA hl (k_X8_cellOf l D cy f27 o wev wnb wki wmy wce wiw wli wha wwt wfy wfk wem wna wpl whs wk1 wk2 wk3 u1 u2 u3 nl nn nf nc lk ks gc oo kx a64 a65 (by omega)) zyX8_cellOf mMX8_90 a64 zl8 rfl rfl (Nat.le_of_ble_eq_true rfl) ⟨Nat.le_of_ble_eq_true rfl, Nat.le_of_ble_eq_true rfl⟩ ⟨Nat.le_of_ble_eq_true rfl, Nat.le_of_ble_eq_true rfl⟩ dX8_leastLike_85 (fun r f66 H locs h67 hz hS => ?_)
                    obtain ⟨rfl, k68⟩ := h67
                    have a69 : f66 o = some (.inr (8, [.int u1, .int u2, .int u3, .ref wev, .int (nI nl), .ref wnb, .int (nI nn), .ref wki, .ref wmy, .ref wce, .ref wiw, .ref wli, .ref wha, .ref wwt, .int (nI nf), .ref wfy, .ref wfk, .int (nI nc), .ref wem, .ref wna, .ref wpl, .ref whs, .long lk, .int (nI ks), .ref wk1, .ref wk2, .ref wk3])) := k68 _ _ a64 
                    have a70 : f27 wli = some (.inl (cy 0, 60, .inl gl)) := k29 _ _ a20 
                    have a71 : f66 wli = some (.inl (cy 0, 60, .inl gl)) := k68 _ _ a70 
                    refine z_callVi (As := [.long (gc (16 * oo + kx))]) C hz hS hA hl (k_X8_likeOf l D cy f66 o wev wnb wki wmy wce wiw wli wha wwt wfy wfk wem wna wpl whs wk1 wk2 wk3 u1 u2 u3 nl nn nf nc lk ks gl (gc (16 * oo + kx)) a69 a71 (z_ref hMP (by omega) (by omega) hko (by omega))) zyX8_likeOf mMX8_94 a69 zl8 rfl rfl (Nat.le_of_ble_eq_true rfl) ⟨Nat.le_of_ble_eq_true rfl, Nat.le_of_ble_eq_true rfl⟩ ⟨Nat.le_of_ble_eq_true rfl, Nat.le_of_ble_eq_true rfl⟩ dX8_leastLike_88 (fun r f72 H locs h73 hz hS => ?_)
                    obtain ⟨rfl, k74⟩ := h73
                    refine lv_aload_n hx hb dX8_leastLike_91 rfl (lv_at hl 0 rfl) ?_
                    refine lv_aload_n hx hb dX8_leastLike_92 rfl (lv_at hl 0 rfl) ?_
                    refine lv_iload_n hx hb dX8_leastLike_93 rfl (lv_at hl 1 rfl) ?_
                    refine lv_iload hx hb dX8_leastLike_94 (lv_at hl 4 rfl) ?_
                    have a75 : f72 o = some (.inr (8, [.int u1, .int u2, .int u3, .ref wev, .int (nI nl), .ref wnb, .int (nI nn), .ref wki, .ref wmy, .ref wce, .ref wiw, .ref wli, .ref wha, .ref wwt, .int (nI nf), .ref wfy, .ref wfk, .int (nI nc), .ref wem, .ref wna, .ref wpl, .ref whs, .long lk, .int (nI ks), .ref wk1, .ref wk2, .ref wk3])) := k74 _ _ a69 
                    have a76 : f66 wce = some (.inl (cy 1, 960, .inr (.inl gc))) := k68 _ _ a65 
                    have a77 : f72 wce = some (.inl (cy 1, 960, .inr (.inl gc))) := k74 _ _ a76 
                    refine z_callVl (As := [.int (nI nn), .int (nI kx)]) C hz hS hA hl (k_X8_cellOf l D cy f72 o wev wnb wki wmy wce wiw wli wha wwt wfy wfk wem wna wpl whs wk1 wk2 wk3 u1 u2 u3 nl nn nf nc lk ks gc nn kx a75 a77 (by omega)) zyX8_cellOf mMX8_90 a75 zl8 rfl rfl (Nat.le_of_ble_eq_true rfl) ⟨Nat.le_of_ble_eq_true rfl, Nat.le_of_ble_eq_true rfl⟩ ⟨Nat.le_of_ble_eq_true rfl, Nat.le_of_ble_eq_true rfl⟩ dX8_leastLike_96 (fun r f78 H locs h79 hz hS => ?_)
                    obtain ⟨rfl, k80⟩ := h79
                    have a81 : f78 o = some (.inr (8, [.int u1, .int u2, .int u3, .ref wev, .int (nI nl), .ref wnb, .int (nI nn), .ref wki, .ref wmy, .ref wce, .ref wiw, .ref wli, .ref wha, .ref wwt, .int (nI nf), .ref wfy, .ref wfk, .int (nI nc), .ref wem, .ref wna, .ref wpl, .ref whs, .long lk, .int (nI ks), .ref wk1, .ref wk2, .ref wk3])) := k80 _ _ a75 
                    have a82 : f72 wli = some (.inl (cy 0, 60, .inl gl)) := k74 _ _ a71 
                    have a83 : f78 wli = some (.inl (cy 0, 60, .inl gl)) := k80 _ _ a82 
                    refine z_callVi (As := [.long (gc (16 * nn + kx))]) C hz hS hA hl (k_X8_likeOf l D cy f78 o wev wnb wki wmy wce wiw wli wha wwt wfy wfk wem wna wpl whs wk1 wk2 wk3 u1 u2 u3 nl nn nf nc lk ks gl (gc (16 * nn + kx)) a81 a83 (z_r60 (by omega) (hrf hkn kx (by omega)))) zyX8_likeOf mMX8_94 a81 zl8 rfl rfl (Nat.le_of_ble_eq_true rfl) ⟨Nat.le_of_ble_eq_true rfl, Nat.le_of_ble_eq_true rfl⟩ ⟨Nat.le_of_ble_eq_true rfl, Nat.le_of_ble_eq_true rfl⟩ dX8_leastLike_99 (fun r f84 H locs h85 hz hS => ?_)
                    obtain ⟨rfl, k86⟩ := h85
                    refine lv_icmp_ne (tgt := 109) hx hb dX8_leastLike_102 (by decide) (fun c87 => ?_) (fun c87 => ?_)
                    · refine lv_iconst (v := 0) hx hb dX8_leastLike_109 (by decide) ?_
                      refine lv_goto (tgt := 136) hx hb dX8_leastLike_110 (by decide) ?_
                      refine lv_istore_n (lv' := [(3, .int 0), (0, .ref o), (1, .int (nI nn)), (2, .int (nI oo)), (4, .int (nI kx))]) hx hb dX8_leastLike_136 rfl hl (by decide) rfl (fun ls hl => ?_)
                      refine lv_iinc (v := nI (kx + 1)) (lv' := [(4, .int (nI (kx + 1))), (3, .int 0), (0, .ref o), (1, .int (nI nn)), (2, .int (nI oo))]) hx hb dX8_leastLike_137 hl (k := 4) rfl (nI_1 kx) (by decide) rfl (fun ls hl => ?_)
                      refine lv_goto (tgt := 57) hx hb dX8_leastLike_140 (by decide) ?_
                      have a88 : f84 o = some (.inr (8, [.int u1, .int u2, .int u3, .ref wev, .int (nI nl), .ref wnb, .int (nI nn), .ref wki, .ref wmy, .ref wce, .ref wiw, .ref wli, .ref wha, .ref wwt, .int (nI nf), .ref wfy, .ref wfk, .int (nI nc), .ref wem, .ref wna, .ref wpl, .ref whs, .long lk, .int (nI ks), .ref wk1, .ref wk2, .ref wk3])) := k86 _ _ a81 
                      have a89 : f27 wki = some (.inl (cy 0, 60, .inl gk)) := k29 _ _ a17 
                      have a90 : f66 wki = some (.inl (cy 0, 60, .inl gk)) := k68 _ _ a89 
                      have a91 : f72 wki = some (.inl (cy 0, 60, .inl gk)) := k74 _ _ a90 
                      have a92 : f78 wki = some (.inl (cy 0, 60, .inl gk)) := k80 _ _ a91 
                      have a93 : f84 wki = some (.inl (cy 0, 60, .inl gk)) := k86 _ _ a92 
                      have a94 : f27 wmy = some (.inl (cy 0, 60, .inl gm)) := k29 _ _ a18 
                      have a95 : f66 wmy = some (.inl (cy 0, 60, .inl gm)) := k68 _ _ a94 
                      have a96 : f72 wmy = some (.inl (cy 0, 60, .inl gm)) := k74 _ _ a95 
                      have a97 : f78 wmy = some (.inl (cy 0, 60, .inl gm)) := k80 _ _ a96 
                      have a98 : f84 wmy = some (.inl (cy 0, 60, .inl gm)) := k86 _ _ a97 
                      have a99 : f78 wce = some (.inl (cy 1, 960, .inr (.inl gc))) := k80 _ _ a77 
                      have a100 : f84 wce = some (.inl (cy 1, 960, .inr (.inl gc))) := k86 _ _ a99 
                      have a101 : f84 wli = some (.inl (cy 0, 60, .inl gl)) := k86 _ _ a83 
                      exact ih_14 (kx + 1) 0 _ _ _ _ (by omega) (by omega) (fun h9 => absurd rfl h9) (fun _ c9 => absurd (c9.2.2.2 kx (by omega)) (by rw [zLE, if_pos hkn]; exact c87)) a88 a93 a98 a100 a101 (by
                            intro b e hb 
                            have hb1 : fL13 b = some e := k15 b e hb 
                            have hb2 : f27 b = some e := k29 b e hb1 
                            have hb3 : f66 b = some e := k68 b e hb2 
                            have hb4 : f72 b = some e := k74 b e hb3 
                            have hb5 : f78 b = some e := k80 b e hb4 
                            have hb6 : f84 b = some e := k86 b e hb5 
                            exact hb6) hz hS (lv_sub hl [2, 3, 4, 1, 0] rfl)
                    · refine lv_iconst (v := 1) hx hb dX8_leastLike_105 (by decide) ?_
                      refine lv_goto (tgt := 136) hx hb dX8_leastLike_106 (by decide) ?_
                      refine lv_istore_n (lv' := [(3, .int 1), (0, .ref o), (1, .int (nI nn)), (2, .int (nI oo)), (4, .int (nI kx))]) hx hb dX8_leastLike_136 rfl hl (by decide) rfl (fun ls hl => ?_)
                      refine lv_iinc (v := nI (kx + 1)) (lv' := [(4, .int (nI (kx + 1))), (3, .int 1), (0, .ref o), (1, .int (nI nn)), (2, .int (nI oo))]) hx hb dX8_leastLike_137 hl (k := 4) rfl (nI_1 kx) (by decide) rfl (fun ls hl => ?_)
                      refine lv_goto (tgt := 57) hx hb dX8_leastLike_140 (by decide) ?_
                      have a102 : f84 o = some (.inr (8, [.int u1, .int u2, .int u3, .ref wev, .int (nI nl), .ref wnb, .int (nI nn), .ref wki, .ref wmy, .ref wce, .ref wiw, .ref wli, .ref wha, .ref wwt, .int (nI nf), .ref wfy, .ref wfk, .int (nI nc), .ref wem, .ref wna, .ref wpl, .ref whs, .long lk, .int (nI ks), .ref wk1, .ref wk2, .ref wk3])) := k86 _ _ a81 
                      have a103 : f27 wki = some (.inl (cy 0, 60, .inl gk)) := k29 _ _ a17 
                      have a104 : f66 wki = some (.inl (cy 0, 60, .inl gk)) := k68 _ _ a103 
                      have a105 : f72 wki = some (.inl (cy 0, 60, .inl gk)) := k74 _ _ a104 
                      have a106 : f78 wki = some (.inl (cy 0, 60, .inl gk)) := k80 _ _ a105 
                      have a107 : f84 wki = some (.inl (cy 0, 60, .inl gk)) := k86 _ _ a106 
                      have a108 : f27 wmy = some (.inl (cy 0, 60, .inl gm)) := k29 _ _ a18 
                      have a109 : f66 wmy = some (.inl (cy 0, 60, .inl gm)) := k68 _ _ a108 
                      have a110 : f72 wmy = some (.inl (cy 0, 60, .inl gm)) := k74 _ _ a109 
                      have a111 : f78 wmy = some (.inl (cy 0, 60, .inl gm)) := k80 _ _ a110 
                      have a112 : f84 wmy = some (.inl (cy 0, 60, .inl gm)) := k86 _ _ a111 
                      have a113 : f78 wce = some (.inl (cy 1, 960, .inr (.inl gc))) := k80 _ _ a77 
                      have a114 : f84 wce = some (.inl (cy 1, 960, .inr (.inl gc))) := k86 _ _ a113 
                      have a115 : f84 wli = some (.inl (cy 0, 60, .inl gl)) := k86 _ _ a83 
                      exact ih_14 (kx + 1) 1 _ _ _ _ (by omega) (by omega) (fun _ => ⟨hke, h6, hlo, zLE_st hE (by rw [zLE, if_pos hkn]; exact c87)⟩) (fun h9 => absurd h9 (by decide)) a102 a107 a112 a114 a115 (by
                            intro b e hb 
                            have hb1 : fL13 b = some e := k15 b e hb 
                            have hb2 : f27 b = some e := k29 b e hb1 
                            have hb3 : f66 b = some e := k68 b e hb2 
                            have hb4 : f72 b = some e := k74 b e hb3 
                            have hb5 : f78 b = some e := k80 b e hb4 
                            have hb6 : f84 b = some e := k86 b e hb5 
                            exact hb6) hz hS (lv_sub hl [2, 3, 4, 1, 0] rfl)
          exact lp12 (t - 0 + 1) 0 0 _ _ _ _ (Nat.lt_succ_self _) (by omega) (fun h9 => absurd rfl h9) (fun _ c9 => c11 c9.1) a5 a6 a7 a8 a9 (fun b e hb => hb) hz hS (lv_sub hl [2, 3, 4, 1, 0] rfl)
        · refine lv_aload_n hx hb dX8_leastLike_22 rfl (lv_at hl 0 rfl) ?_
          refine z_get (v := .ref wki) C hz a5 zl8 mFX8_20 (by decide) rfl dX8_leastLike_23 ?_
          refine lv_iload_n hx hb dX8_leastLike_26 rfl (lv_at hl 1 rfl) ?_
          refine z_iald nn C hz a6 rfl (by omega) (by omega) dX8_leastLike_27 ?_
          refine lv_bipush (v := 6) hx hb dX8_leastLike_28 (by decide) ?_
          refine lv_icmp_eq (tgt := 52) hx hb dX8_leastLike_30 (by decide) (fun c116 => ?_) (fun c116 => ?_)
          · refine lv_iconst (v := 0) hx hb dX8_leastLike_52 (by decide) ?_
            refine lv_istore_n (lv' := [(3, .int 0), (0, .ref o), (1, .int (nI nn)), (2, .int (nI oo))]) hx hb dX8_leastLike_53 rfl hl (by decide) rfl (fun ls hl => ?_)
            refine lv_iconst (v := 0) hx hb dX8_leastLike_54 (by decide) ?_
            refine lv_istore (lv' := [(4, .int 0), (3, .int 0), (0, .ref o), (1, .int (nI nn)), (2, .int (nI oo))]) hx hb dX8_leastLike_55 hl (by decide) rfl (fun ls hl => ?_)
            have lp117 : ∀ (n : Nat) (kx : Nat) (isv : Int32) (fL118 : zM) (H : Heap) (locs : List Loc) (ls : Array Slot), (t - kx) < n → (kx ≤ t) → (¬ isv = 0 → gk oo = gk nn ∧ ¬ gk nn = 6 ∧ ln oo = t ∧ ∀ k, k < kx → zLE gk gl gc oo nn k) → (isv = 0 → ¬ zLC1 gk gl gc ln nn t oo) → fL118 o = some (.inr (8, [.int u1, .int u2, .int u3, .ref wev, .int (nI nl), .ref wnb, .int (nI nn), .ref wki, .ref wmy, .ref wce, .ref wiw, .ref wli, .ref wha, .ref wwt, .int (nI nf), .ref wfy, .ref wfk, .int (nI nc), .ref wem, .ref wna, .ref wpl, .ref whs, .long lk, .int (nI ks), .ref wk1, .ref wk2, .ref wk3])) → fL118 wki = some (.inl (cy 0, 60, .inl gk)) → fL118 wmy = some (.inl (cy 0, 60, .inl gm)) → fL118 wce = some (.inl (cy 1, 960, .inr (.inl gc))) → fL118 wli = some (.inl (cy 0, 60, .inl gl)) → (∀ (b : Nat) (e : va_E), fL2 b = some e → fL118 b = some e) → zH D (zA f s.heap.size) fL118 H → va_S (zA f s.heap.size) s.heap H locs → lv_has ls 5 [(0, .ref o), (1, .int (nI nn)), (2, .int (nI oo)), (3, .int isv), (4, .int (nI kx))] → W p l e rmX8_leastLike s m ([.ref o, .int (nI nn)] : List Value).toArray below meth c H locs 0 0 (MQ below (va_Qi (fun (r : Int32) (f1 : zM) => ∃ (jl : Nat), r = (nI jl) ∧ (jl ≤ nn) ∧ (jl < nn → zLC1 gk gl gc ln nn t jl) ∧ (∀ o, o < jl → ¬ zLC1 gk gl gc ln nn t o) ∧ (∀ (b : Nat) (e : va_E), f b = some e → f1 b = some e)) (zB D f s.heap.size) (zA f s.heap.size)) ([.ref o, .int (nI nn)] : List Value).toArray s rmX8_leastLike.cells rmX8_leastLike.slots (zA f s.heap.size)) (F0 m 57 ls []) := by
              intro n
              induction n with
              | zero => intro kx isv fL118 H locs ls hmz; exact absurd hmz (Nat.not_lt_zero _)
              | succ n_119 ih_119 =>
                intro kx isv fL118 H locs ls hmz_119 hik hT hF a121 a122 a123 a124 a125 k120 hz hS hl
                refine lv_iload_n hx hb dX8_leastLike_57 rfl (lv_at hl 3 rfl) ?_
                refine lv_if_eq (tgt := 143) hx hb dX8_leastLike_58 (by decide) (fun c126 => ?_) (fun c126 => ?_)
                · have hnC := hF c126
                  refine lv_iload_n hx hb dX8_leastLike_143 rfl (lv_at hl 3 rfl) ?_
                  refine lv_if_eq (tgt := 149) hx hb dX8_leastLike_144 (by decide) (fun c127 => ?_) (fun c127 => ?_)
                  rotate_left
                  · exact absurd c126 c127
                  refine lv_iinc (v := nI (oo + 1)) (lv' := [(2, .int (nI (oo + 1))), (0, .ref o), (1, .int (nI nn)), (3, .int isv), (4, .int (nI kx))]) hx hb dX8_leastLike_149 hl (k := 2) rfl (nI_1 oo) (by decide) rfl (fun ls hl => ?_)
                  refine lv_goto (tgt := 2) hx hb dX8_leastLike_152 (by decide) ?_
                  exact ih_3 (oo + 1) _ _ _ _ (by omega) (by omega) (zLC_st hno hnC) a121 a122 a123 a124 a125 (by
                        intro b e hb 
                        have hb0 : fL2 b = some e := k4 b e hb 
                        have hb1 : fL118 b = some e := k120 b e hb0 
                        exact hb1) hz hS (lv_sub hl [1, 2, 0] rfl)
                · obtain ⟨hke, h6, hlo, hE⟩ := hT c126
                  refine lv_iload hx hb dX8_leastLike_61 (lv_at hl 4 rfl) ?_
                  refine lv_aload_n hx hb dX8_leastLike_63 rfl (lv_at hl 0 rfl) ?_
                  refine z_get (v := .ref wmy) C hz a121 zl8 mFX8_23 (by decide) rfl dX8_leastLike_64 ?_
                  refine lv_iload_n hx hb dX8_leastLike_67 rfl (lv_at hl 1 rfl) ?_
                  refine z_iald nn C hz a123 rfl (by omega) (by omega) dX8_leastLike_68 ?_
                  refine lv_topi (fun y128 e129 => ?_)
                  obtain rfl : y128 = nI t := e129.trans hmt
                  refine lv_icmp_ge (tgt := 143) hx hb dX8_leastLike_69 (by decide) (fun c130 => ?_) (fun c130 => ?_)
                  · replace c130 : (t ≤ kx) := (nI_leI (a := t) (b := kx) (by omega) (by omega)).mp c130
                    have hC : zLC1 gk gl gc ln nn t oo := ⟨hke, h6, hlo, fun k9 h9 => hE k9 (by omega)⟩
                    refine lv_iload_n hx hb dX8_leastLike_143 rfl (lv_at hl 3 rfl) ?_
                    refine lv_if_eq (tgt := 149) hx hb dX8_leastLike_144 (by decide) (fun c131 => ?_) (fun c131 => ?_)
                    · exact absurd c131 c126
                    refine lv_iload_n hx hb dX8_leastLike_147 rfl (lv_at hl 2 rfl) ?_
                    exact z_iret C hr rfl hz hS ⟨oo, rfl, (by omega), (fun _ => hC), hno, (by
                          intro b e hb 
                          have hb0 : fL2 b = some e := k4 b e hb 
                          have hb1 : fL118 b = some e := k120 b e hb0 
                          exact hb1)⟩ (Nat.le_of_ble_eq_true rfl) (Nat.le_of_ble_eq_true rfl) dX8_leastLike_148
                  · replace c130 : ¬ (t ≤ kx) := fun h => c130 ((nI_leI (a := t) (b := kx) (by omega) (by omega)).mpr h)
                    refine lv_aload_n hx hb dX8_leastLike_72 rfl (lv_at hl 0 rfl) ?_
                    refine lv_iload_n hx hb dX8_leastLike_73 rfl (lv_at hl 1 rfl) ?_
                    refine z_callVi (As := [.int (nI nn)]) C hz hS hA hl (k_X8_isFigurePart l D cy fL118 o wev wnb wki wmy wce wiw wli wha wwt wfy wfk wem wna wpl whs wk1 wk2 wk3 u1 u2 u3 nl nn nf nc lk ks gk nn a121 a122 (by omega)) zyX8_isFigurePart mMX8_86 a121 zl8 rfl rfl (Nat.le_of_ble_eq_true rfl) ⟨Nat.le_of_ble_eq_true rfl, Nat.le_of_ble_eq_true rfl⟩ ⟨Nat.le_of_ble_eq_true rfl, Nat.le_of_ble_eq_true rfl⟩ dX8_leastLike_74 (fun r f132 H locs h133 hz hS => ?_)
                    obtain ⟨rfl, k134⟩ := h133
                    refine lv_if_eq (tgt := 113) hx hb dX8_leastLike_77 (by decide) (fun c135 => ?_) (fun c135 => ?_)
                    · have hkn0 : ¬ gk nn = 4 := fun h9 => by
                        rw [if_pos h9] at c135
                        exact absurd c135 (by decide)
                      refine lv_aload_n hx hb dX8_leastLike_113 rfl (lv_at hl 0 rfl) ?_
                      refine lv_iload_n hx hb dX8_leastLike_114 rfl (lv_at hl 2 rfl) ?_
                      refine lv_iload hx hb dX8_leastLike_115 (lv_at hl 4 rfl) ?_
                      have a136 : f132 o = some (.inr (8, [.int u1, .int u2, .int u3, .ref wev, .int (nI nl), .ref wnb, .int (nI nn), .ref wki, .ref wmy, .ref wce, .ref wiw, .ref wli, .ref wha, .ref wwt, .int (nI nf), .ref wfy, .ref wfk, .int (nI nc), .ref wem, .ref wna, .ref wpl, .ref whs, .long lk, .int (nI ks), .ref wk1, .ref wk2, .ref wk3])) := k134 _ _ a121 
                      have a137 : f132 wce = some (.inl (cy 1, 960, .inr (.inl gc))) := k134 _ _ a124 
                      refine z_callVl (As := [.int (nI oo), .int (nI kx)]) C hz hS hA hl (k_X8_cellOf l D cy f132 o wev wnb wki wmy wce wiw wli wha wwt wfy wfk wem wna wpl whs wk1 wk2 wk3 u1 u2 u3 nl nn nf nc lk ks gc oo kx a136 a137 (by omega)) zyX8_cellOf mMX8_90 a136 zl8 rfl rfl (Nat.le_of_ble_eq_true rfl) ⟨Nat.le_of_ble_eq_true rfl, Nat.le_of_ble_eq_true rfl⟩ ⟨Nat.le_of_ble_eq_true rfl, Nat.le_of_ble_eq_true rfl⟩ dX8_leastLike_117 (fun r f138 H locs h139 hz hS => ?_)
                      obtain ⟨rfl, k140⟩ := h139
                      refine lv_aload_n hx hb dX8_leastLike_120 rfl (lv_at hl 0 rfl) ?_
                      refine lv_iload_n hx hb dX8_leastLike_121 rfl (lv_at hl 1 rfl) ?_
                      refine lv_iload hx hb dX8_leastLike_122 (lv_at hl 4 rfl) ?_
                      have a141 : f138 o = some (.inr (8, [.int u1, .int u2, .int u3, .ref wev, .int (nI nl), .ref wnb, .int (nI nn), .ref wki, .ref wmy, .ref wce, .ref wiw, .ref wli, .ref wha, .ref wwt, .int (nI nf), .ref wfy, .ref wfk, .int (nI nc), .ref wem, .ref wna, .ref wpl, .ref whs, .long lk, .int (nI ks), .ref wk1, .ref wk2, .ref wk3])) := k140 _ _ a136 
                      have a142 : f138 wce = some (.inl (cy 1, 960, .inr (.inl gc))) := k140 _ _ a137 
                      refine z_callVl (As := [.int (nI nn), .int (nI kx)]) C hz hS hA hl (k_X8_cellOf l D cy f138 o wev wnb wki wmy wce wiw wli wha wwt wfy wfk wem wna wpl whs wk1 wk2 wk3 u1 u2 u3 nl nn nf nc lk ks gc nn kx a141 a142 (by omega)) zyX8_cellOf mMX8_90 a141 zl8 rfl rfl (Nat.le_of_ble_eq_true rfl) ⟨Nat.le_of_ble_eq_true rfl, Nat.le_of_ble_eq_true rfl⟩ ⟨Nat.le_of_ble_eq_true rfl, Nat.le_of_ble_eq_true rfl⟩ dX8_leastLike_124 (fun r f143 H locs h144 hz hS => ?_)
                      obtain ⟨rfl, k145⟩ := h144
                      refine W.lcmp hx hb dX8_leastLike_127 ?_
                      refine lv_if_ne (tgt := 135) hx hb dX8_leastLike_128 (by decide) (fun c146 => ?_) (fun c146 => ?_)
                      · refine lv_iconst (v := 0) hx hb dX8_leastLike_135 (by decide) ?_
                        refine lv_istore_n (lv' := [(3, .int 0), (0, .ref o), (1, .int (nI nn)), (2, .int (nI oo)), (4, .int (nI kx))]) hx hb dX8_leastLike_136 rfl hl (by decide) rfl (fun ls hl => ?_)
                        refine lv_iinc (v := nI (kx + 1)) (lv' := [(4, .int (nI (kx + 1))), (3, .int 0), (0, .ref o), (1, .int (nI nn)), (2, .int (nI oo))]) hx hb dX8_leastLike_137 hl (k := 4) rfl (nI_1 kx) (by decide) rfl (fun ls hl => ?_)
                        refine lv_goto (tgt := 57) hx hb dX8_leastLike_140 (by decide) ?_
                        have a147 : f143 o = some (.inr (8, [.int u1, .int u2, .int u3, .ref wev, .int (nI nl), .ref wnb, .int (nI nn), .ref wki, .ref wmy, .ref wce, .ref wiw, .ref wli, .ref wha, .ref wwt, .int (nI nf), .ref wfy, .ref wfk, .int (nI nc), .ref wem, .ref wna, .ref wpl, .ref whs, .long lk, .int (nI ks), .ref wk1, .ref wk2, .ref wk3])) := k145 _ _ a141 
                        have a148 : f132 wki = some (.inl (cy 0, 60, .inl gk)) := k134 _ _ a122 
                        have a149 : f138 wki = some (.inl (cy 0, 60, .inl gk)) := k140 _ _ a148 
                        have a150 : f143 wki = some (.inl (cy 0, 60, .inl gk)) := k145 _ _ a149 
                        have a151 : f132 wmy = some (.inl (cy 0, 60, .inl gm)) := k134 _ _ a123 
                        have a152 : f138 wmy = some (.inl (cy 0, 60, .inl gm)) := k140 _ _ a151 
                        have a153 : f143 wmy = some (.inl (cy 0, 60, .inl gm)) := k145 _ _ a152 
                        have a154 : f143 wce = some (.inl (cy 1, 960, .inr (.inl gc))) := k145 _ _ a142 
                        have a155 : f132 wli = some (.inl (cy 0, 60, .inl gl)) := k134 _ _ a125 
                        have a156 : f138 wli = some (.inl (cy 0, 60, .inl gl)) := k140 _ _ a155 
                        have a157 : f143 wli = some (.inl (cy 0, 60, .inl gl)) := k145 _ _ a156 
                        exact ih_119 (kx + 1) 0 _ _ _ _ (by omega) (by omega) (fun h9 => absurd rfl h9) (fun _ c9 => absurd (c9.2.2.2 kx (by omega)) (by rw [zLE, if_neg hkn0]; exact fun h9 => c146 ((lg_cmp_eq _ _).mpr h9))) a147 a150 a153 a154 a157 (by
                              intro b e hb 
                              have hb1 : fL118 b = some e := k120 b e hb 
                              have hb2 : f132 b = some e := k134 b e hb1 
                              have hb3 : f138 b = some e := k140 b e hb2 
                              have hb4 : f143 b = some e := k145 b e hb3 
                              exact hb4) hz hS (lv_sub hl [2, 3, 4, 1, 0] rfl)
                      · refine lv_iconst (v := 1) hx hb dX8_leastLike_131 (by decide) ?_
                        refine lv_goto (tgt := 136) hx hb dX8_leastLike_132 (by decide) ?_
                        refine lv_istore_n (lv' := [(3, .int 1), (0, .ref o), (1, .int (nI nn)), (2, .int (nI oo)), (4, .int (nI kx))]) hx hb dX8_leastLike_136 rfl hl (by decide) rfl (fun ls hl => ?_)
                        refine lv_iinc (v := nI (kx + 1)) (lv' := [(4, .int (nI (kx + 1))), (3, .int 1), (0, .ref o), (1, .int (nI nn)), (2, .int (nI oo))]) hx hb dX8_leastLike_137 hl (k := 4) rfl (nI_1 kx) (by decide) rfl (fun ls hl => ?_)
                        refine lv_goto (tgt := 57) hx hb dX8_leastLike_140 (by decide) ?_
                        have a158 : f143 o = some (.inr (8, [.int u1, .int u2, .int u3, .ref wev, .int (nI nl), .ref wnb, .int (nI nn), .ref wki, .ref wmy, .ref wce, .ref wiw, .ref wli, .ref wha, .ref wwt, .int (nI nf), .ref wfy, .ref wfk, .int (nI nc), .ref wem, .ref wna, .ref wpl, .ref whs, .long lk, .int (nI ks), .ref wk1, .ref wk2, .ref wk3])) := k145 _ _ a141 
                        have a159 : f132 wki = some (.inl (cy 0, 60, .inl gk)) := k134 _ _ a122 
                        have a160 : f138 wki = some (.inl (cy 0, 60, .inl gk)) := k140 _ _ a159 
                        have a161 : f143 wki = some (.inl (cy 0, 60, .inl gk)) := k145 _ _ a160 
                        have a162 : f132 wmy = some (.inl (cy 0, 60, .inl gm)) := k134 _ _ a123 
                        have a163 : f138 wmy = some (.inl (cy 0, 60, .inl gm)) := k140 _ _ a162 
                        have a164 : f143 wmy = some (.inl (cy 0, 60, .inl gm)) := k145 _ _ a163 
                        have a165 : f143 wce = some (.inl (cy 1, 960, .inr (.inl gc))) := k145 _ _ a142 
                        have a166 : f132 wli = some (.inl (cy 0, 60, .inl gl)) := k134 _ _ a125 
                        have a167 : f138 wli = some (.inl (cy 0, 60, .inl gl)) := k140 _ _ a166 
                        have a168 : f143 wli = some (.inl (cy 0, 60, .inl gl)) := k145 _ _ a167 
                        exact ih_119 (kx + 1) 1 _ _ _ _ (by omega) (by omega) (fun _ => ⟨hke, h6, hlo, zLE_st hE (by rw [zLE, if_neg hkn0]; exact (lg_cmp_eq _ _).mp c146)⟩) (fun h9 => absurd h9 (by decide)) a158 a161 a164 a165 a168 (by
                              intro b e hb 
                              have hb1 : fL118 b = some e := k120 b e hb 
                              have hb2 : f132 b = some e := k134 b e hb1 
                              have hb3 : f138 b = some e := k140 b e hb2 
                              have hb4 : f143 b = some e := k145 b e hb3 
                              exact hb4) hz hS (lv_sub hl [2, 3, 4, 1, 0] rfl)
                    · have hkn : gk nn = 4 := by
                        by_cases h9 : gk nn = 4
                        · exact h9
                        · exact absurd (by rw [if_neg h9]) c135
                      have hko : gk oo = 4 := hke.trans hkn
                      refine lv_aload_n hx hb dX8_leastLike_80 rfl (lv_at hl 0 rfl) ?_
                      refine lv_aload_n hx hb dX8_leastLike_81 rfl (lv_at hl 0 rfl) ?_
                      refine lv_iload_n hx hb dX8_leastLike_82 rfl (lv_at hl 2 rfl) ?_
                      refine lv_iload hx hb dX8_leastLike_83 (lv_at hl 4 rfl) ?_
                      have a169 : f132 o = some (.inr (8, [.int u1, .int u2, .int u3, .ref wev, .int (nI nl), .ref wnb, .int (nI nn), .ref wki, .ref wmy, .ref wce, .ref wiw, .ref wli, .ref wha, .ref wwt, .int (nI nf), .ref wfy, .ref wfk, .int (nI nc), .ref wem, .ref wna, .ref wpl, .ref whs, .long lk, .int (nI ks), .ref wk1, .ref wk2, .ref wk3])) := k134 _ _ a121 
                      have a170 : f132 wce = some (.inl (cy 1, 960, .inr (.inl gc))) := k134 _ _ a124 
                      refine z_callVl (As := [.int (nI oo), .int (nI kx)]) C hz hS hA hl (k_X8_cellOf l D cy f132 o wev wnb wki wmy wce wiw wli wha wwt wfy wfk wem wna wpl whs wk1 wk2 wk3 u1 u2 u3 nl nn nf nc lk ks gc oo kx a169 a170 (by omega)) zyX8_cellOf mMX8_90 a169 zl8 rfl rfl (Nat.le_of_ble_eq_true rfl) ⟨Nat.le_of_ble_eq_true rfl, Nat.le_of_ble_eq_true rfl⟩ ⟨Nat.le_of_ble_eq_true rfl, Nat.le_of_ble_eq_true rfl⟩ dX8_leastLike_85 (fun r f171 H locs h172 hz hS => ?_)
                      obtain ⟨rfl, k173⟩ := h172
                      have a174 : f171 o = some (.inr (8, [.int u1, .int u2, .int u3, .ref wev, .int (nI nl), .ref wnb, .int (nI nn), .ref wki, .ref wmy, .ref wce, .ref wiw, .ref wli, .ref wha, .ref wwt, .int (nI nf), .ref wfy, .ref wfk, .int (nI nc), .ref wem, .ref wna, .ref wpl, .ref whs, .long lk, .int (nI ks), .ref wk1, .ref wk2, .ref wk3])) := k173 _ _ a169 
                      have a175 : f132 wli = some (.inl (cy 0, 60, .inl gl)) := k134 _ _ a125 
                      have a176 : f171 wli = some (.inl (cy 0, 60, .inl gl)) := k173 _ _ a175 
                      refine z_callVi (As := [.long (gc (16 * oo + kx))]) C hz hS hA hl (k_X8_likeOf l D cy f171 o wev wnb wki wmy wce wiw wli wha wwt wfy wfk wem wna wpl whs wk1 wk2 wk3 u1 u2 u3 nl nn nf nc lk ks gl (gc (16 * oo + kx)) a174 a176 (z_ref hMP (by omega) (by omega) hko (by omega))) zyX8_likeOf mMX8_94 a174 zl8 rfl rfl (Nat.le_of_ble_eq_true rfl) ⟨Nat.le_of_ble_eq_true rfl, Nat.le_of_ble_eq_true rfl⟩ ⟨Nat.le_of_ble_eq_true rfl, Nat.le_of_ble_eq_true rfl⟩ dX8_leastLike_88 (fun r f177 H locs h178 hz hS => ?_)
                      obtain ⟨rfl, k179⟩ := h178
                      refine lv_aload_n hx hb dX8_leastLike_91 rfl (lv_at hl 0 rfl) ?_
                      refine lv_aload_n hx hb dX8_leastLike_92 rfl (lv_at hl 0 rfl) ?_
                      refine lv_iload_n hx hb dX8_leastLike_93 rfl (lv_at hl 1 rfl) ?_
                      refine lv_iload hx hb dX8_leastLike_94 (lv_at hl 4 rfl) ?_
                      have a180 : f177 o = some (.inr (8, [.int u1, .int u2, .int u3, .ref wev, .int (nI nl), .ref wnb, .int (nI nn), .ref wki, .ref wmy, .ref wce, .ref wiw, .ref wli, .ref wha, .ref wwt, .int (nI nf), .ref wfy, .ref wfk, .int (nI nc), .ref wem, .ref wna, .ref wpl, .ref whs, .long lk, .int (nI ks), .ref wk1, .ref wk2, .ref wk3])) := k179 _ _ a174 
                      have a181 : f171 wce = some (.inl (cy 1, 960, .inr (.inl gc))) := k173 _ _ a170 
                      have a182 : f177 wce = some (.inl (cy 1, 960, .inr (.inl gc))) := k179 _ _ a181 
                      refine z_callVl (As := [.int (nI nn), .int (nI kx)]) C hz hS hA hl (k_X8_cellOf l D cy f177 o wev wnb wki wmy wce wiw wli wha wwt wfy wfk wem wna wpl whs wk1 wk2 wk3 u1 u2 u3 nl nn nf nc lk ks gc nn kx a180 a182 (by omega)) zyX8_cellOf mMX8_90 a180 zl8 rfl rfl (Nat.le_of_ble_eq_true rfl) ⟨Nat.le_of_ble_eq_true rfl, Nat.le_of_ble_eq_true rfl⟩ ⟨Nat.le_of_ble_eq_true rfl, Nat.le_of_ble_eq_true rfl⟩ dX8_leastLike_96 (fun r f183 H locs h184 hz hS => ?_)
                      obtain ⟨rfl, k185⟩ := h184
                      have a186 : f183 o = some (.inr (8, [.int u1, .int u2, .int u3, .ref wev, .int (nI nl), .ref wnb, .int (nI nn), .ref wki, .ref wmy, .ref wce, .ref wiw, .ref wli, .ref wha, .ref wwt, .int (nI nf), .ref wfy, .ref wfk, .int (nI nc), .ref wem, .ref wna, .ref wpl, .ref whs, .long lk, .int (nI ks), .ref wk1, .ref wk2, .ref wk3])) := k185 _ _ a180 
                      have a187 : f177 wli = some (.inl (cy 0, 60, .inl gl)) := k179 _ _ a176 
                      have a188 : f183 wli = some (.inl (cy 0, 60, .inl gl)) := k185 _ _ a187 
                      refine z_callVi (As := [.long (gc (16 * nn + kx))]) C hz hS hA hl (k_X8_likeOf l D cy f183 o wev wnb wki wmy wce wiw wli wha wwt wfy wfk wem wna wpl whs wk1 wk2 wk3 u1 u2 u3 nl nn nf nc lk ks gl (gc (16 * nn + kx)) a186 a188 (z_r60 (by omega) (hrf hkn kx (by omega)))) zyX8_likeOf mMX8_94 a186 zl8 rfl rfl (Nat.le_of_ble_eq_true rfl) ⟨Nat.le_of_ble_eq_true rfl, Nat.le_of_ble_eq_true rfl⟩ ⟨Nat.le_of_ble_eq_true rfl, Nat.le_of_ble_eq_true rfl⟩ dX8_leastLike_99 (fun r f189 H locs h190 hz hS => ?_)
                      obtain ⟨rfl, k191⟩ := h190
                      refine lv_icmp_ne (tgt := 109) hx hb dX8_leastLike_102 (by decide) (fun c192 => ?_) (fun c192 => ?_)
                      · refine lv_iconst (v := 0) hx hb dX8_leastLike_109 (by decide) ?_
                        refine lv_goto (tgt := 136) hx hb dX8_leastLike_110 (by decide) ?_
                        refine lv_istore_n (lv' := [(3, .int 0), (0, .ref o), (1, .int (nI nn)), (2, .int (nI oo)), (4, .int (nI kx))]) hx hb dX8_leastLike_136 rfl hl (by decide) rfl (fun ls hl => ?_)
                        refine lv_iinc (v := nI (kx + 1)) (lv' := [(4, .int (nI (kx + 1))), (3, .int 0), (0, .ref o), (1, .int (nI nn)), (2, .int (nI oo))]) hx hb dX8_leastLike_137 hl (k := 4) rfl (nI_1 kx) (by decide) rfl (fun ls hl => ?_)
                        refine lv_goto (tgt := 57) hx hb dX8_leastLike_140 (by decide) ?_
                        have a193 : f189 o = some (.inr (8, [.int u1, .int u2, .int u3, .ref wev, .int (nI nl), .ref wnb, .int (nI nn), .ref wki, .ref wmy, .ref wce, .ref wiw, .ref wli, .ref wha, .ref wwt, .int (nI nf), .ref wfy, .ref wfk, .int (nI nc), .ref wem, .ref wna, .ref wpl, .ref whs, .long lk, .int (nI ks), .ref wk1, .ref wk2, .ref wk3])) := k191 _ _ a186 
                        have a194 : f132 wki = some (.inl (cy 0, 60, .inl gk)) := k134 _ _ a122 
                        have a195 : f171 wki = some (.inl (cy 0, 60, .inl gk)) := k173 _ _ a194 
                        have a196 : f177 wki = some (.inl (cy 0, 60, .inl gk)) := k179 _ _ a195 
                        have a197 : f183 wki = some (.inl (cy 0, 60, .inl gk)) := k185 _ _ a196 
                        have a198 : f189 wki = some (.inl (cy 0, 60, .inl gk)) := k191 _ _ a197 
                        have a199 : f132 wmy = some (.inl (cy 0, 60, .inl gm)) := k134 _ _ a123 
                        have a200 : f171 wmy = some (.inl (cy 0, 60, .inl gm)) := k173 _ _ a199 
                        have a201 : f177 wmy = some (.inl (cy 0, 60, .inl gm)) := k179 _ _ a200 
                        have a202 : f183 wmy = some (.inl (cy 0, 60, .inl gm)) := k185 _ _ a201 
                        have a203 : f189 wmy = some (.inl (cy 0, 60, .inl gm)) := k191 _ _ a202 
                        have a204 : f183 wce = some (.inl (cy 1, 960, .inr (.inl gc))) := k185 _ _ a182 
                        have a205 : f189 wce = some (.inl (cy 1, 960, .inr (.inl gc))) := k191 _ _ a204 
                        have a206 : f189 wli = some (.inl (cy 0, 60, .inl gl)) := k191 _ _ a188 
                        exact ih_119 (kx + 1) 0 _ _ _ _ (by omega) (by omega) (fun h9 => absurd rfl h9) (fun _ c9 => absurd (c9.2.2.2 kx (by omega)) (by rw [zLE, if_pos hkn]; exact c192)) a193 a198 a203 a205 a206 (by
                              intro b e hb 
                              have hb1 : fL118 b = some e := k120 b e hb 
                              have hb2 : f132 b = some e := k134 b e hb1 
                              have hb3 : f171 b = some e := k173 b e hb2 
                              have hb4 : f177 b = some e := k179 b e hb3 
                              have hb5 : f183 b = some e := k185 b e hb4 
                              have hb6 : f189 b = some e := k191 b e hb5 
                              exact hb6) hz hS (lv_sub hl [2, 3, 4, 1, 0] rfl)
                      · refine lv_iconst (v := 1) hx hb dX8_leastLike_105 (by decide) ?_
                        refine lv_goto (tgt := 136) hx hb dX8_leastLike_106 (by decide) ?_
                        refine lv_istore_n (lv' := [(3, .int 1), (0, .ref o), (1, .int (nI nn)), (2, .int (nI oo)), (4, .int (nI kx))]) hx hb dX8_leastLike_136 rfl hl (by decide) rfl (fun ls hl => ?_)
                        refine lv_iinc (v := nI (kx + 1)) (lv' := [(4, .int (nI (kx + 1))), (3, .int 1), (0, .ref o), (1, .int (nI nn)), (2, .int (nI oo))]) hx hb dX8_leastLike_137 hl (k := 4) rfl (nI_1 kx) (by decide) rfl (fun ls hl => ?_)
                        refine lv_goto (tgt := 57) hx hb dX8_leastLike_140 (by decide) ?_
                        have a207 : f189 o = some (.inr (8, [.int u1, .int u2, .int u3, .ref wev, .int (nI nl), .ref wnb, .int (nI nn), .ref wki, .ref wmy, .ref wce, .ref wiw, .ref wli, .ref wha, .ref wwt, .int (nI nf), .ref wfy, .ref wfk, .int (nI nc), .ref wem, .ref wna, .ref wpl, .ref whs, .long lk, .int (nI ks), .ref wk1, .ref wk2, .ref wk3])) := k191 _ _ a186 
                        have a208 : f132 wki = some (.inl (cy 0, 60, .inl gk)) := k134 _ _ a122 
                        have a209 : f171 wki = some (.inl (cy 0, 60, .inl gk)) := k173 _ _ a208 
                        have a210 : f177 wki = some (.inl (cy 0, 60, .inl gk)) := k179 _ _ a209 
                        have a211 : f183 wki = some (.inl (cy 0, 60, .inl gk)) := k185 _ _ a210 
                        have a212 : f189 wki = some (.inl (cy 0, 60, .inl gk)) := k191 _ _ a211 
                        have a213 : f132 wmy = some (.inl (cy 0, 60, .inl gm)) := k134 _ _ a123 
                        have a214 : f171 wmy = some (.inl (cy 0, 60, .inl gm)) := k173 _ _ a213 
                        have a215 : f177 wmy = some (.inl (cy 0, 60, .inl gm)) := k179 _ _ a214 
                        have a216 : f183 wmy = some (.inl (cy 0, 60, .inl gm)) := k185 _ _ a215 
                        have a217 : f189 wmy = some (.inl (cy 0, 60, .inl gm)) := k191 _ _ a216 
                        have a218 : f183 wce = some (.inl (cy 1, 960, .inr (.inl gc))) := k185 _ _ a182 
                        have a219 : f189 wce = some (.inl (cy 1, 960, .inr (.inl gc))) := k191 _ _ a218 
                        have a220 : f189 wli = some (.inl (cy 0, 60, .inl gl)) := k191 _ _ a188 
                        exact ih_119 (kx + 1) 1 _ _ _ _ (by omega) (by omega) (fun _ => ⟨hke, h6, hlo, zLE_st hE (by rw [zLE, if_pos hkn]; exact c192)⟩) (fun h9 => absurd h9 (by decide)) a207 a212 a217 a219 a220 (by
                              intro b e hb 
                              have hb1 : fL118 b = some e := k120 b e hb 
                              have hb2 : f132 b = some e := k134 b e hb1 
                              have hb3 : f171 b = some e := k173 b e hb2 
                              have hb4 : f177 b = some e := k179 b e hb3 
                              have hb5 : f183 b = some e := k185 b e hb4 
                              have hb6 : f189 b = some e := k191 b e hb5 
                              exact hb6) hz hS (lv_sub hl [2, 3, 4, 1, 0] rfl)
            exact lp117 (t - 0 + 1) 0 0 _ _ _ _ (Nat.lt_succ_self _) (by omega) (fun h9 => absurd rfl h9) (fun _ c9 => c9.2.1 c116) a5 a6 a7 a8 a9 (fun b e hb => hb) hz hS (lv_sub hl [2, 3, 4, 1, 0] rfl)
          · refine lv_aload_n hx hb dX8_leastLike_33 rfl (lv_at hl 0 rfl) ?_
            refine z_get (v := .ref wmy) C hz a5 zl8 mFX8_23 (by decide) rfl dX8_leastLike_34 ?_
            refine lv_iload_n hx hb dX8_leastLike_37 rfl (lv_at hl 2 rfl) ?_
            refine z_iald oo C hz a7 rfl (by omega) (by omega) dX8_leastLike_38 ?_
            refine lv_aload_n hx hb dX8_leastLike_39 rfl (lv_at hl 0 rfl) ?_
            refine z_get (v := .ref wmy) C hz a5 zl8 mFX8_23 (by decide) rfl dX8_leastLike_40 ?_
            refine lv_iload_n hx hb dX8_leastLike_43 rfl (lv_at hl 1 rfl) ?_
            refine z_iald nn C hz a7 rfl (by omega) (by omega) dX8_leastLike_44 ?_
            refine lv_topi (fun y221 e222 => ?_)
            obtain rfl : y221 = nI t := e222.trans hmt
            refine lv_icmp_ne (tgt := 52) hx hb dX8_leastLike_45 (by decide) (fun c223 => ?_) (fun c223 => ?_)
            · refine lv_iconst (v := 0) hx hb dX8_leastLike_52 (by decide) ?_
              refine lv_istore_n (lv' := [(3, .int 0), (0, .ref o), (1, .int (nI nn)), (2, .int (nI oo))]) hx hb dX8_leastLike_53 rfl hl (by decide) rfl (fun ls hl => ?_)
              refine lv_iconst (v := 0) hx hb dX8_leastLike_54 (by decide) ?_
              refine lv_istore (lv' := [(4, .int 0), (3, .int 0), (0, .ref o), (1, .int (nI nn)), (2, .int (nI oo))]) hx hb dX8_leastLike_55 hl (by decide) rfl (fun ls hl => ?_)
              have lp224 : ∀ (n : Nat) (kx : Nat) (isv : Int32) (fL225 : zM) (H : Heap) (locs : List Loc) (ls : Array Slot), (t - kx) < n → (kx ≤ t) → (¬ isv = 0 → gk oo = gk nn ∧ ¬ gk nn = 6 ∧ ln oo = t ∧ ∀ k, k < kx → zLE gk gl gc oo nn k) → (isv = 0 → ¬ zLC1 gk gl gc ln nn t oo) → fL225 o = some (.inr (8, [.int u1, .int u2, .int u3, .ref wev, .int (nI nl), .ref wnb, .int (nI nn), .ref wki, .ref wmy, .ref wce, .ref wiw, .ref wli, .ref wha, .ref wwt, .int (nI nf), .ref wfy, .ref wfk, .int (nI nc), .ref wem, .ref wna, .ref wpl, .ref whs, .long lk, .int (nI ks), .ref wk1, .ref wk2, .ref wk3])) → fL225 wki = some (.inl (cy 0, 60, .inl gk)) → fL225 wmy = some (.inl (cy 0, 60, .inl gm)) → fL225 wce = some (.inl (cy 1, 960, .inr (.inl gc))) → fL225 wli = some (.inl (cy 0, 60, .inl gl)) → (∀ (b : Nat) (e : va_E), fL2 b = some e → fL225 b = some e) → zH D (zA f s.heap.size) fL225 H → va_S (zA f s.heap.size) s.heap H locs → lv_has ls 5 [(0, .ref o), (1, .int (nI nn)), (2, .int (nI oo)), (3, .int isv), (4, .int (nI kx))] → W p l e rmX8_leastLike s m ([.ref o, .int (nI nn)] : List Value).toArray below meth c H locs 0 0 (MQ below (va_Qi (fun (r : Int32) (f1 : zM) => ∃ (jl : Nat), r = (nI jl) ∧ (jl ≤ nn) ∧ (jl < nn → zLC1 gk gl gc ln nn t jl) ∧ (∀ o, o < jl → ¬ zLC1 gk gl gc ln nn t o) ∧ (∀ (b : Nat) (e : va_E), f b = some e → f1 b = some e)) (zB D f s.heap.size) (zA f s.heap.size)) ([.ref o, .int (nI nn)] : List Value).toArray s rmX8_leastLike.cells rmX8_leastLike.slots (zA f s.heap.size)) (F0 m 57 ls []) := by
                intro n
                induction n with
                | zero => intro kx isv fL225 H locs ls hmz; exact absurd hmz (Nat.not_lt_zero _)
                | succ n_226 ih_226 =>
                  intro kx isv fL225 H locs ls hmz_226 hik hT hF a228 a229 a230 a231 a232 k227 hz hS hl
                  refine lv_iload_n hx hb dX8_leastLike_57 rfl (lv_at hl 3 rfl) ?_
                  refine lv_if_eq (tgt := 143) hx hb dX8_leastLike_58 (by decide) (fun c233 => ?_) (fun c233 => ?_)
                  · have hnC := hF c233
                    refine lv_iload_n hx hb dX8_leastLike_143 rfl (lv_at hl 3 rfl) ?_
                    refine lv_if_eq (tgt := 149) hx hb dX8_leastLike_144 (by decide) (fun c234 => ?_) (fun c234 => ?_)
                    rotate_left
                    · exact absurd c233 c234
                    refine lv_iinc (v := nI (oo + 1)) (lv' := [(2, .int (nI (oo + 1))), (0, .ref o), (1, .int (nI nn)), (3, .int isv), (4, .int (nI kx))]) hx hb dX8_leastLike_149 hl (k := 2) rfl (nI_1 oo) (by decide) rfl (fun ls hl => ?_)
                    refine lv_goto (tgt := 2) hx hb dX8_leastLike_152 (by decide) ?_
                    exact ih_3 (oo + 1) _ _ _ _ (by omega) (by omega) (zLC_st hno hnC) a228 a229 a230 a231 a232 (by
                          intro b e hb 
                          have hb0 : fL2 b = some e := k4 b e hb 
                          have hb1 : fL225 b = some e := k227 b e hb0 
                          exact hb1) hz hS (lv_sub hl [1, 2, 0] rfl)
                  · obtain ⟨hke, h6, hlo, hE⟩ := hT c233
                    refine lv_iload hx hb dX8_leastLike_61 (lv_at hl 4 rfl) ?_
                    refine lv_aload_n hx hb dX8_leastLike_63 rfl (lv_at hl 0 rfl) ?_
                    refine z_get (v := .ref wmy) C hz a228 zl8 mFX8_23 (by decide) rfl dX8_leastLike_64 ?_
                    refine lv_iload_n hx hb dX8_leastLike_67 rfl (lv_at hl 1 rfl) ?_
                    refine z_iald nn C hz a230 rfl (by omega) (by omega) dX8_leastLike_68 ?_
                    refine lv_topi (fun y235 e236 => ?_)
                    obtain rfl : y235 = nI t := e236.trans hmt
                    refine lv_icmp_ge (tgt := 143) hx hb dX8_leastLike_69 (by decide) (fun c237 => ?_) (fun c237 => ?_)
                    · replace c237 : (t ≤ kx) := (nI_leI (a := t) (b := kx) (by omega) (by omega)).mp c237
                      have hC : zLC1 gk gl gc ln nn t oo := ⟨hke, h6, hlo, fun k9 h9 => hE k9 (by omega)⟩
                      refine lv_iload_n hx hb dX8_leastLike_143 rfl (lv_at hl 3 rfl) ?_
                      refine lv_if_eq (tgt := 149) hx hb dX8_leastLike_144 (by decide) (fun c238 => ?_) (fun c238 => ?_)
                      · exact absurd c238 c233
                      refine lv_iload_n hx hb dX8_leastLike_147 rfl (lv_at hl 2 rfl) ?_
                      exact z_iret C hr rfl hz hS ⟨oo, rfl, (by omega), (fun _ => hC), hno, (by
                            intro b e hb 
                            have hb0 : fL2 b = some e := k4 b e hb 
                            have hb1 : fL225 b = some e := k227 b e hb0 
                            exact hb1)⟩ (Nat.le_of_ble_eq_true rfl) (Nat.le_of_ble_eq_true rfl) dX8_leastLike_148
                    · replace c237 : ¬ (t ≤ kx) := fun h => c237 ((nI_leI (a := t) (b := kx) (by omega) (by omega)).mpr h)
                      refine lv_aload_n hx hb dX8_leastLike_72 rfl (lv_at hl 0 rfl) ?_
                      refine lv_iload_n hx hb dX8_leastLike_73 rfl (lv_at hl 1 rfl) ?_
                      refine z_callVi (As := [.int (nI nn)]) C hz hS hA hl (k_X8_isFigurePart l D cy fL225 o wev wnb wki wmy wce wiw wli wha wwt wfy wfk wem wna wpl whs wk1 wk2 wk3 u1 u2 u3 nl nn nf nc lk ks gk nn a228 a229 (by omega)) zyX8_isFigurePart mMX8_86 a228 zl8 rfl rfl (Nat.le_of_ble_eq_true rfl) ⟨Nat.le_of_ble_eq_true rfl, Nat.le_of_ble_eq_true rfl⟩ ⟨Nat.le_of_ble_eq_true rfl, Nat.le_of_ble_eq_true rfl⟩ dX8_leastLike_74 (fun r f239 H locs h240 hz hS => ?_)
                      obtain ⟨rfl, k241⟩ := h240
                      refine lv_if_eq (tgt := 113) hx hb dX8_leastLike_77 (by decide) (fun c242 => ?_) (fun c242 => ?_)
                      · have hkn0 : ¬ gk nn = 4 := fun h9 => by
                          rw [if_pos h9] at c242
                          exact absurd c242 (by decide)
                        refine lv_aload_n hx hb dX8_leastLike_113 rfl (lv_at hl 0 rfl) ?_
                        refine lv_iload_n hx hb dX8_leastLike_114 rfl (lv_at hl 2 rfl) ?_
                        refine lv_iload hx hb dX8_leastLike_115 (lv_at hl 4 rfl) ?_
                        have a243 : f239 o = some (.inr (8, [.int u1, .int u2, .int u3, .ref wev, .int (nI nl), .ref wnb, .int (nI nn), .ref wki, .ref wmy, .ref wce, .ref wiw, .ref wli, .ref wha, .ref wwt, .int (nI nf), .ref wfy, .ref wfk, .int (nI nc), .ref wem, .ref wna, .ref wpl, .ref whs, .long lk, .int (nI ks), .ref wk1, .ref wk2, .ref wk3])) := k241 _ _ a228 
                        have a244 : f239 wce = some (.inl (cy 1, 960, .inr (.inl gc))) := k241 _ _ a231 
                        refine z_callVl (As := [.int (nI oo), .int (nI kx)]) C hz hS hA hl (k_X8_cellOf l D cy f239 o wev wnb wki wmy wce wiw wli wha wwt wfy wfk wem wna wpl whs wk1 wk2 wk3 u1 u2 u3 nl nn nf nc lk ks gc oo kx a243 a244 (by omega)) zyX8_cellOf mMX8_90 a243 zl8 rfl rfl (Nat.le_of_ble_eq_true rfl) ⟨Nat.le_of_ble_eq_true rfl, Nat.le_of_ble_eq_true rfl⟩ ⟨Nat.le_of_ble_eq_true rfl, Nat.le_of_ble_eq_true rfl⟩ dX8_leastLike_117 (fun r f245 H locs h246 hz hS => ?_)
                        obtain ⟨rfl, k247⟩ := h246
                        refine lv_aload_n hx hb dX8_leastLike_120 rfl (lv_at hl 0 rfl) ?_
                        refine lv_iload_n hx hb dX8_leastLike_121 rfl (lv_at hl 1 rfl) ?_
                        refine lv_iload hx hb dX8_leastLike_122 (lv_at hl 4 rfl) ?_
                        have a248 : f245 o = some (.inr (8, [.int u1, .int u2, .int u3, .ref wev, .int (nI nl), .ref wnb, .int (nI nn), .ref wki, .ref wmy, .ref wce, .ref wiw, .ref wli, .ref wha, .ref wwt, .int (nI nf), .ref wfy, .ref wfk, .int (nI nc), .ref wem, .ref wna, .ref wpl, .ref whs, .long lk, .int (nI ks), .ref wk1, .ref wk2, .ref wk3])) := k247 _ _ a243 
                        have a249 : f245 wce = some (.inl (cy 1, 960, .inr (.inl gc))) := k247 _ _ a244 
                        refine z_callVl (As := [.int (nI nn), .int (nI kx)]) C hz hS hA hl (k_X8_cellOf l D cy f245 o wev wnb wki wmy wce wiw wli wha wwt wfy wfk wem wna wpl whs wk1 wk2 wk3 u1 u2 u3 nl nn nf nc lk ks gc nn kx a248 a249 (by omega)) zyX8_cellOf mMX8_90 a248 zl8 rfl rfl (Nat.le_of_ble_eq_true rfl) ⟨Nat.le_of_ble_eq_true rfl, Nat.le_of_ble_eq_true rfl⟩ ⟨Nat.le_of_ble_eq_true rfl, Nat.le_of_ble_eq_true rfl⟩ dX8_leastLike_124 (fun r f250 H locs h251 hz hS => ?_)
                        obtain ⟨rfl, k252⟩ := h251
                        refine W.lcmp hx hb dX8_leastLike_127 ?_
                        refine lv_if_ne (tgt := 135) hx hb dX8_leastLike_128 (by decide) (fun c253 => ?_) (fun c253 => ?_)
                        · refine lv_iconst (v := 0) hx hb dX8_leastLike_135 (by decide) ?_
                          refine lv_istore_n (lv' := [(3, .int 0), (0, .ref o), (1, .int (nI nn)), (2, .int (nI oo)), (4, .int (nI kx))]) hx hb dX8_leastLike_136 rfl hl (by decide) rfl (fun ls hl => ?_)
                          refine lv_iinc (v := nI (kx + 1)) (lv' := [(4, .int (nI (kx + 1))), (3, .int 0), (0, .ref o), (1, .int (nI nn)), (2, .int (nI oo))]) hx hb dX8_leastLike_137 hl (k := 4) rfl (nI_1 kx) (by decide) rfl (fun ls hl => ?_)
                          refine lv_goto (tgt := 57) hx hb dX8_leastLike_140 (by decide) ?_
                          have a254 : f250 o = some (.inr (8, [.int u1, .int u2, .int u3, .ref wev, .int (nI nl), .ref wnb, .int (nI nn), .ref wki, .ref wmy, .ref wce, .ref wiw, .ref wli, .ref wha, .ref wwt, .int (nI nf), .ref wfy, .ref wfk, .int (nI nc), .ref wem, .ref wna, .ref wpl, .ref whs, .long lk, .int (nI ks), .ref wk1, .ref wk2, .ref wk3])) := k252 _ _ a248 
                          have a255 : f239 wki = some (.inl (cy 0, 60, .inl gk)) := k241 _ _ a229 
                          have a256 : f245 wki = some (.inl (cy 0, 60, .inl gk)) := k247 _ _ a255 
                          have a257 : f250 wki = some (.inl (cy 0, 60, .inl gk)) := k252 _ _ a256 
                          have a258 : f239 wmy = some (.inl (cy 0, 60, .inl gm)) := k241 _ _ a230 
                          have a259 : f245 wmy = some (.inl (cy 0, 60, .inl gm)) := k247 _ _ a258 
                          have a260 : f250 wmy = some (.inl (cy 0, 60, .inl gm)) := k252 _ _ a259 
                          have a261 : f250 wce = some (.inl (cy 1, 960, .inr (.inl gc))) := k252 _ _ a249 
                          have a262 : f239 wli = some (.inl (cy 0, 60, .inl gl)) := k241 _ _ a232 
                          have a263 : f245 wli = some (.inl (cy 0, 60, .inl gl)) := k247 _ _ a262 
                          have a264 : f250 wli = some (.inl (cy 0, 60, .inl gl)) := k252 _ _ a263 
                          exact ih_226 (kx + 1) 0 _ _ _ _ (by omega) (by omega) (fun h9 => absurd rfl h9) (fun _ c9 => absurd (c9.2.2.2 kx (by omega)) (by rw [zLE, if_neg hkn0]; exact fun h9 => c253 ((lg_cmp_eq _ _).mpr h9))) a254 a257 a260 a261 a264 (by
                                intro b e hb 
                                have hb1 : fL225 b = some e := k227 b e hb 
                                have hb2 : f239 b = some e := k241 b e hb1 
                                have hb3 : f245 b = some e := k247 b e hb2 
                                have hb4 : f250 b = some e := k252 b e hb3 
                                exact hb4) hz hS (lv_sub hl [2, 3, 4, 1, 0] rfl)
                        · refine lv_iconst (v := 1) hx hb dX8_leastLike_131 (by decide) ?_
                          refine lv_goto (tgt := 136) hx hb dX8_leastLike_132 (by decide) ?_
                          refine lv_istore_n (lv' := [(3, .int 1), (0, .ref o), (1, .int (nI nn)), (2, .int (nI oo)), (4, .int (nI kx))]) hx hb dX8_leastLike_136 rfl hl (by decide) rfl (fun ls hl => ?_)
                          refine lv_iinc (v := nI (kx + 1)) (lv' := [(4, .int (nI (kx + 1))), (3, .int 1), (0, .ref o), (1, .int (nI nn)), (2, .int (nI oo))]) hx hb dX8_leastLike_137 hl (k := 4) rfl (nI_1 kx) (by decide) rfl (fun ls hl => ?_)
                          refine lv_goto (tgt := 57) hx hb dX8_leastLike_140 (by decide) ?_
                          have a265 : f250 o = some (.inr (8, [.int u1, .int u2, .int u3, .ref wev, .int (nI nl), .ref wnb, .int (nI nn), .ref wki, .ref wmy, .ref wce, .ref wiw, .ref wli, .ref wha, .ref wwt, .int (nI nf), .ref wfy, .ref wfk, .int (nI nc), .ref wem, .ref wna, .ref wpl, .ref whs, .long lk, .int (nI ks), .ref wk1, .ref wk2, .ref wk3])) := k252 _ _ a248 
                          have a266 : f239 wki = some (.inl (cy 0, 60, .inl gk)) := k241 _ _ a229 
                          have a267 : f245 wki = some (.inl (cy 0, 60, .inl gk)) := k247 _ _ a266 
                          have a268 : f250 wki = some (.inl (cy 0, 60, .inl gk)) := k252 _ _ a267 
                          have a269 : f239 wmy = some (.inl (cy 0, 60, .inl gm)) := k241 _ _ a230 
                          have a270 : f245 wmy = some (.inl (cy 0, 60, .inl gm)) := k247 _ _ a269 
                          have a271 : f250 wmy = some (.inl (cy 0, 60, .inl gm)) := k252 _ _ a270 
                          have a272 : f250 wce = some (.inl (cy 1, 960, .inr (.inl gc))) := k252 _ _ a249 
                          have a273 : f239 wli = some (.inl (cy 0, 60, .inl gl)) := k241 _ _ a232 
                          have a274 : f245 wli = some (.inl (cy 0, 60, .inl gl)) := k247 _ _ a273 
                          have a275 : f250 wli = some (.inl (cy 0, 60, .inl gl)) := k252 _ _ a274 
                          exact ih_226 (kx + 1) 1 _ _ _ _ (by omega) (by omega) (fun _ => ⟨hke, h6, hlo, zLE_st hE (by rw [zLE, if_neg hkn0]; exact (lg_cmp_eq _ _).mp c253)⟩) (fun h9 => absurd h9 (by decide)) a265 a268 a271 a272 a275 (by
                                intro b e hb 
                                have hb1 : fL225 b = some e := k227 b e hb 
                                have hb2 : f239 b = some e := k241 b e hb1 
                                have hb3 : f245 b = some e := k247 b e hb2 
                                have hb4 : f250 b = some e := k252 b e hb3 
                                exact hb4) hz hS (lv_sub hl [2, 3, 4, 1, 0] rfl)
                      · have hkn : gk nn = 4 := by
                          by_cases h9 : gk nn = 4
                          · exact h9
                          · exact absurd (by rw [if_neg h9]) c242
                        have hko : gk oo = 4 := hke.trans hkn
                        refine lv_aload_n hx hb dX8_leastLike_80 rfl (lv_at hl 0 rfl) ?_
                        refine lv_aload_n hx hb dX8_leastLike_81 rfl (lv_at hl 0 rfl) ?_
                        refine lv_iload_n hx hb dX8_leastLike_82 rfl (lv_at hl 2 rfl) ?_
                        refine lv_iload hx hb dX8_leastLike_83 (lv_at hl 4 rfl) ?_
                        have a276 : f239 o = some (.inr (8, [.int u1, .int u2, .int u3, .ref wev, .int (nI nl), .ref wnb, .int (nI nn), .ref wki, .ref wmy, .ref wce, .ref wiw, .ref wli, .ref wha, .ref wwt, .int (nI nf), .ref wfy, .ref wfk, .int (nI nc), .ref wem, .ref wna, .ref wpl, .ref whs, .long lk, .int (nI ks), .ref wk1, .ref wk2, .ref wk3])) := k241 _ _ a228 
                        have a277 : f239 wce = some (.inl (cy 1, 960, .inr (.inl gc))) := k241 _ _ a231 
                        refine z_callVl (As := [.int (nI oo), .int (nI kx)]) C hz hS hA hl (k_X8_cellOf l D cy f239 o wev wnb wki wmy wce wiw wli wha wwt wfy wfk wem wna wpl whs wk1 wk2 wk3 u1 u2 u3 nl nn nf nc lk ks gc oo kx a276 a277 (by omega)) zyX8_cellOf mMX8_90 a276 zl8 rfl rfl (Nat.le_of_ble_eq_true rfl) ⟨Nat.le_of_ble_eq_true rfl, Nat.le_of_ble_eq_true rfl⟩ ⟨Nat.le_of_ble_eq_true rfl, Nat.le_of_ble_eq_true rfl⟩ dX8_leastLike_85 (fun r f278 H locs h279 hz hS => ?_)
                        obtain ⟨rfl, k280⟩ := h279
                        have a281 : f278 o = some (.inr (8, [.int u1, .int u2, .int u3, .ref wev, .int (nI nl), .ref wnb, .int (nI nn), .ref wki, .ref wmy, .ref wce, .ref wiw, .ref wli, .ref wha, .ref wwt, .int (nI nf), .ref wfy, .ref wfk, .int (nI nc), .ref wem, .ref wna, .ref wpl, .ref whs, .long lk, .int (nI ks), .ref wk1, .ref wk2, .ref wk3])) := k280 _ _ a276 
                        have a282 : f239 wli = some (.inl (cy 0, 60, .inl gl)) := k241 _ _ a232 
                        have a283 : f278 wli = some (.inl (cy 0, 60, .inl gl)) := k280 _ _ a282 
                        refine z_callVi (As := [.long (gc (16 * oo + kx))]) C hz hS hA hl (k_X8_likeOf l D cy f278 o wev wnb wki wmy wce wiw wli wha wwt wfy wfk wem wna wpl whs wk1 wk2 wk3 u1 u2 u3 nl nn nf nc lk ks gl (gc (16 * oo + kx)) a281 a283 (z_ref hMP (by omega) (by omega) hko (by omega))) zyX8_likeOf mMX8_94 a281 zl8 rfl rfl (Nat.le_of_ble_eq_true rfl) ⟨Nat.le_of_ble_eq_true rfl, Nat.le_of_ble_eq_true rfl⟩ ⟨Nat.le_of_ble_eq_true rfl, Nat.le_of_ble_eq_true rfl⟩ dX8_leastLike_88 (fun r f284 H locs h285 hz hS => ?_)
                        obtain ⟨rfl, k286⟩ := h285
                        refine lv_aload_n hx hb dX8_leastLike_91 rfl (lv_at hl 0 rfl) ?_
                        refine lv_aload_n hx hb dX8_leastLike_92 rfl (lv_at hl 0 rfl) ?_
                        refine lv_iload_n hx hb dX8_leastLike_93 rfl (lv_at hl 1 rfl) ?_
                        refine lv_iload hx hb dX8_leastLike_94 (lv_at hl 4 rfl) ?_
                        have a287 : f284 o = some (.inr (8, [.int u1, .int u2, .int u3, .ref wev, .int (nI nl), .ref wnb, .int (nI nn), .ref wki, .ref wmy, .ref wce, .ref wiw, .ref wli, .ref wha, .ref wwt, .int (nI nf), .ref wfy, .ref wfk, .int (nI nc), .ref wem, .ref wna, .ref wpl, .ref whs, .long lk, .int (nI ks), .ref wk1, .ref wk2, .ref wk3])) := k286 _ _ a281 
                        have a288 : f278 wce = some (.inl (cy 1, 960, .inr (.inl gc))) := k280 _ _ a277 
                        have a289 : f284 wce = some (.inl (cy 1, 960, .inr (.inl gc))) := k286 _ _ a288 
                        refine z_callVl (As := [.int (nI nn), .int (nI kx)]) C hz hS hA hl (k_X8_cellOf l D cy f284 o wev wnb wki wmy wce wiw wli wha wwt wfy wfk wem wna wpl whs wk1 wk2 wk3 u1 u2 u3 nl nn nf nc lk ks gc nn kx a287 a289 (by omega)) zyX8_cellOf mMX8_90 a287 zl8 rfl rfl (Nat.le_of_ble_eq_true rfl) ⟨Nat.le_of_ble_eq_true rfl, Nat.le_of_ble_eq_true rfl⟩ ⟨Nat.le_of_ble_eq_true rfl, Nat.le_of_ble_eq_true rfl⟩ dX8_leastLike_96 (fun r f290 H locs h291 hz hS => ?_)
                        obtain ⟨rfl, k292⟩ := h291
                        have a293 : f290 o = some (.inr (8, [.int u1, .int u2, .int u3, .ref wev, .int (nI nl), .ref wnb, .int (nI nn), .ref wki, .ref wmy, .ref wce, .ref wiw, .ref wli, .ref wha, .ref wwt, .int (nI nf), .ref wfy, .ref wfk, .int (nI nc), .ref wem, .ref wna, .ref wpl, .ref whs, .long lk, .int (nI ks), .ref wk1, .ref wk2, .ref wk3])) := k292 _ _ a287 
                        have a294 : f284 wli = some (.inl (cy 0, 60, .inl gl)) := k286 _ _ a283 
                        have a295 : f290 wli = some (.inl (cy 0, 60, .inl gl)) := k292 _ _ a294 
                        refine z_callVi (As := [.long (gc (16 * nn + kx))]) C hz hS hA hl (k_X8_likeOf l D cy f290 o wev wnb wki wmy wce wiw wli wha wwt wfy wfk wem wna wpl whs wk1 wk2 wk3 u1 u2 u3 nl nn nf nc lk ks gl (gc (16 * nn + kx)) a293 a295 (z_r60 (by omega) (hrf hkn kx (by omega)))) zyX8_likeOf mMX8_94 a293 zl8 rfl rfl (Nat.le_of_ble_eq_true rfl) ⟨Nat.le_of_ble_eq_true rfl, Nat.le_of_ble_eq_true rfl⟩ ⟨Nat.le_of_ble_eq_true rfl, Nat.le_of_ble_eq_true rfl⟩ dX8_leastLike_99 (fun r f296 H locs h297 hz hS => ?_)
                        obtain ⟨rfl, k298⟩ := h297
                        refine lv_icmp_ne (tgt := 109) hx hb dX8_leastLike_102 (by decide) (fun c299 => ?_) (fun c299 => ?_)
                        · refine lv_iconst (v := 0) hx hb dX8_leastLike_109 (by decide) ?_
                          refine lv_goto (tgt := 136) hx hb dX8_leastLike_110 (by decide) ?_
                          refine lv_istore_n (lv' := [(3, .int 0), (0, .ref o), (1, .int (nI nn)), (2, .int (nI oo)), (4, .int (nI kx))]) hx hb dX8_leastLike_136 rfl hl (by decide) rfl (fun ls hl => ?_)
                          refine lv_iinc (v := nI (kx + 1)) (lv' := [(4, .int (nI (kx + 1))), (3, .int 0), (0, .ref o), (1, .int (nI nn)), (2, .int (nI oo))]) hx hb dX8_leastLike_137 hl (k := 4) rfl (nI_1 kx) (by decide) rfl (fun ls hl => ?_)
                          refine lv_goto (tgt := 57) hx hb dX8_leastLike_140 (by decide) ?_
                          have a300 : f296 o = some (.inr (8, [.int u1, .int u2, .int u3, .ref wev, .int (nI nl), .ref wnb, .int (nI nn), .ref wki, .ref wmy, .ref wce, .ref wiw, .ref wli, .ref wha, .ref wwt, .int (nI nf), .ref wfy, .ref wfk, .int (nI nc), .ref wem, .ref wna, .ref wpl, .ref whs, .long lk, .int (nI ks), .ref wk1, .ref wk2, .ref wk3])) := k298 _ _ a293 
                          have a301 : f239 wki = some (.inl (cy 0, 60, .inl gk)) := k241 _ _ a229 
                          have a302 : f278 wki = some (.inl (cy 0, 60, .inl gk)) := k280 _ _ a301 
                          have a303 : f284 wki = some (.inl (cy 0, 60, .inl gk)) := k286 _ _ a302 
                          have a304 : f290 wki = some (.inl (cy 0, 60, .inl gk)) := k292 _ _ a303 
                          have a305 : f296 wki = some (.inl (cy 0, 60, .inl gk)) := k298 _ _ a304 
                          have a306 : f239 wmy = some (.inl (cy 0, 60, .inl gm)) := k241 _ _ a230 
                          have a307 : f278 wmy = some (.inl (cy 0, 60, .inl gm)) := k280 _ _ a306 
                          have a308 : f284 wmy = some (.inl (cy 0, 60, .inl gm)) := k286 _ _ a307 
                          have a309 : f290 wmy = some (.inl (cy 0, 60, .inl gm)) := k292 _ _ a308 
                          have a310 : f296 wmy = some (.inl (cy 0, 60, .inl gm)) := k298 _ _ a309 
                          have a311 : f290 wce = some (.inl (cy 1, 960, .inr (.inl gc))) := k292 _ _ a289 
                          have a312 : f296 wce = some (.inl (cy 1, 960, .inr (.inl gc))) := k298 _ _ a311 
                          have a313 : f296 wli = some (.inl (cy 0, 60, .inl gl)) := k298 _ _ a295 
                          exact ih_226 (kx + 1) 0 _ _ _ _ (by omega) (by omega) (fun h9 => absurd rfl h9) (fun _ c9 => absurd (c9.2.2.2 kx (by omega)) (by rw [zLE, if_pos hkn]; exact c299)) a300 a305 a310 a312 a313 (by
                                intro b e hb 
                                have hb1 : fL225 b = some e := k227 b e hb 
                                have hb2 : f239 b = some e := k241 b e hb1 
                                have hb3 : f278 b = some e := k280 b e hb2 
                                have hb4 : f284 b = some e := k286 b e hb3 
                                have hb5 : f290 b = some e := k292 b e hb4 
                                have hb6 : f296 b = some e := k298 b e hb5 
                                exact hb6) hz hS (lv_sub hl [2, 3, 4, 1, 0] rfl)
                        · refine lv_iconst (v := 1) hx hb dX8_leastLike_105 (by decide) ?_
                          refine lv_goto (tgt := 136) hx hb dX8_leastLike_106 (by decide) ?_
                          refine lv_istore_n (lv' := [(3, .int 1), (0, .ref o), (1, .int (nI nn)), (2, .int (nI oo)), (4, .int (nI kx))]) hx hb dX8_leastLike_136 rfl hl (by decide) rfl (fun ls hl => ?_)
                          refine lv_iinc (v := nI (kx + 1)) (lv' := [(4, .int (nI (kx + 1))), (3, .int 1), (0, .ref o), (1, .int (nI nn)), (2, .int (nI oo))]) hx hb dX8_leastLike_137 hl (k := 4) rfl (nI_1 kx) (by decide) rfl (fun ls hl => ?_)
                          refine lv_goto (tgt := 57) hx hb dX8_leastLike_140 (by decide) ?_
                          have a314 : f296 o = some (.inr (8, [.int u1, .int u2, .int u3, .ref wev, .int (nI nl), .ref wnb, .int (nI nn), .ref wki, .ref wmy, .ref wce, .ref wiw, .ref wli, .ref wha, .ref wwt, .int (nI nf), .ref wfy, .ref wfk, .int (nI nc), .ref wem, .ref wna, .ref wpl, .ref whs, .long lk, .int (nI ks), .ref wk1, .ref wk2, .ref wk3])) := k298 _ _ a293 
                          have a315 : f239 wki = some (.inl (cy 0, 60, .inl gk)) := k241 _ _ a229 
                          have a316 : f278 wki = some (.inl (cy 0, 60, .inl gk)) := k280 _ _ a315 
                          have a317 : f284 wki = some (.inl (cy 0, 60, .inl gk)) := k286 _ _ a316 
                          have a318 : f290 wki = some (.inl (cy 0, 60, .inl gk)) := k292 _ _ a317 
                          have a319 : f296 wki = some (.inl (cy 0, 60, .inl gk)) := k298 _ _ a318 
                          have a320 : f239 wmy = some (.inl (cy 0, 60, .inl gm)) := k241 _ _ a230 
                          have a321 : f278 wmy = some (.inl (cy 0, 60, .inl gm)) := k280 _ _ a320 
                          have a322 : f284 wmy = some (.inl (cy 0, 60, .inl gm)) := k286 _ _ a321 
                          have a323 : f290 wmy = some (.inl (cy 0, 60, .inl gm)) := k292 _ _ a322 
                          have a324 : f296 wmy = some (.inl (cy 0, 60, .inl gm)) := k298 _ _ a323 
                          have a325 : f290 wce = some (.inl (cy 1, 960, .inr (.inl gc))) := k292 _ _ a289 
                          have a326 : f296 wce = some (.inl (cy 1, 960, .inr (.inl gc))) := k298 _ _ a325 
                          have a327 : f296 wli = some (.inl (cy 0, 60, .inl gl)) := k298 _ _ a295 
                          exact ih_226 (kx + 1) 1 _ _ _ _ (by omega) (by omega) (fun _ => ⟨hke, h6, hlo, zLE_st hE (by rw [zLE, if_pos hkn]; exact c299)⟩) (fun h9 => absurd h9 (by decide)) a314 a319 a324 a326 a327 (by
                                intro b e hb 
                                have hb1 : fL225 b = some e := k227 b e hb 
                                have hb2 : f239 b = some e := k241 b e hb1 
                                have hb3 : f278 b = some e := k280 b e hb2 
                                have hb4 : f284 b = some e := k286 b e hb3 
                                have hb5 : f290 b = some e := k292 b e hb4 
                                have hb6 : f296 b = some e := k298 b e hb5 
                                exact hb6) hz hS (lv_sub hl [2, 3, 4, 1, 0] rfl)
              exact lp224 (t - 0 + 1) 0 0 _ _ _ _ (Nat.lt_succ_self _) (by omega) (fun h9 => absurd rfl h9) (fun _ c9 => c223 ((hMP oo (by omega)).1.trans (congrArg nI c9.2.2.1))) a5 a6 a7 a8 a9 (fun b e hb => hb) hz hS (lv_sub hl [2, 3, 4, 1, 0] rfl)
            · refine lv_iconst (v := 1) hx hb dX8_leastLike_48 (by decide) ?_
              refine lv_goto (tgt := 53) hx hb dX8_leastLike_49 (by decide) ?_
              refine lv_istore_n (lv' := [(3, .int 1), (0, .ref o), (1, .int (nI nn)), (2, .int (nI oo))]) hx hb dX8_leastLike_53 rfl hl (by decide) rfl (fun ls hl => ?_)
              refine lv_iconst (v := 0) hx hb dX8_leastLike_54 (by decide) ?_
              refine lv_istore (lv' := [(4, .int 0), (3, .int 1), (0, .ref o), (1, .int (nI nn)), (2, .int (nI oo))]) hx hb dX8_leastLike_55 hl (by decide) rfl (fun ls hl => ?_)
              have lp328 : ∀ (n : Nat) (kx : Nat) (isv : Int32) (fL329 : zM) (H : Heap) (locs : List Loc) (ls : Array Slot), (t - kx) < n → (kx ≤ t) → (¬ isv = 0 → gk oo = gk nn ∧ ¬ gk nn = 6 ∧ ln oo = t ∧ ∀ k, k < kx → zLE gk gl gc oo nn k) → (isv = 0 → ¬ zLC1 gk gl gc ln nn t oo) → fL329 o = some (.inr (8, [.int u1, .int u2, .int u3, .ref wev, .int (nI nl), .ref wnb, .int (nI nn), .ref wki, .ref wmy, .ref wce, .ref wiw, .ref wli, .ref wha, .ref wwt, .int (nI nf), .ref wfy, .ref wfk, .int (nI nc), .ref wem, .ref wna, .ref wpl, .ref whs, .long lk, .int (nI ks), .ref wk1, .ref wk2, .ref wk3])) → fL329 wki = some (.inl (cy 0, 60, .inl gk)) → fL329 wmy = some (.inl (cy 0, 60, .inl gm)) → fL329 wce = some (.inl (cy 1, 960, .inr (.inl gc))) → fL329 wli = some (.inl (cy 0, 60, .inl gl)) → (∀ (b : Nat) (e : va_E), fL2 b = some e → fL329 b = some e) → zH D (zA f s.heap.size) fL329 H → va_S (zA f s.heap.size) s.heap H locs → lv_has ls 5 [(0, .ref o), (1, .int (nI nn)), (2, .int (nI oo)), (3, .int isv), (4, .int (nI kx))] → W p l e rmX8_leastLike s m ([.ref o, .int (nI nn)] : List Value).toArray below meth c H locs 0 0 (MQ below (va_Qi (fun (r : Int32) (f1 : zM) => ∃ (jl : Nat), r = (nI jl) ∧ (jl ≤ nn) ∧ (jl < nn → zLC1 gk gl gc ln nn t jl) ∧ (∀ o, o < jl → ¬ zLC1 gk gl gc ln nn t o) ∧ (∀ (b : Nat) (e : va_E), f b = some e → f1 b = some e)) (zB D f s.heap.size) (zA f s.heap.size)) ([.ref o, .int (nI nn)] : List Value).toArray s rmX8_leastLike.cells rmX8_leastLike.slots (zA f s.heap.size)) (F0 m 57 ls []) := by
                intro n
                induction n with
                | zero => intro kx isv fL329 H locs ls hmz; exact absurd hmz (Nat.not_lt_zero _)
                | succ n_330 ih_330 =>
                  intro kx isv fL329 H locs ls hmz_330 hik hT hF a332 a333 a334 a335 a336 k331 hz hS hl
                  refine lv_iload_n hx hb dX8_leastLike_57 rfl (lv_at hl 3 rfl) ?_
                  refine lv_if_eq (tgt := 143) hx hb dX8_leastLike_58 (by decide) (fun c337 => ?_) (fun c337 => ?_)
                  · have hnC := hF c337
                    refine lv_iload_n hx hb dX8_leastLike_143 rfl (lv_at hl 3 rfl) ?_
                    refine lv_if_eq (tgt := 149) hx hb dX8_leastLike_144 (by decide) (fun c338 => ?_) (fun c338 => ?_)
                    rotate_left
                    · exact absurd c337 c338
                    refine lv_iinc (v := nI (oo + 1)) (lv' := [(2, .int (nI (oo + 1))), (0, .ref o), (1, .int (nI nn)), (3, .int isv), (4, .int (nI kx))]) hx hb dX8_leastLike_149 hl (k := 2) rfl (nI_1 oo) (by decide) rfl (fun ls hl => ?_)
                    refine lv_goto (tgt := 2) hx hb dX8_leastLike_152 (by decide) ?_
                    exact ih_3 (oo + 1) _ _ _ _ (by omega) (by omega) (zLC_st hno hnC) a332 a333 a334 a335 a336 (by
                          intro b e hb 
                          have hb0 : fL2 b = some e := k4 b e hb 
                          have hb1 : fL329 b = some e := k331 b e hb0 
                          exact hb1) hz hS (lv_sub hl [1, 2, 0] rfl)
                  · obtain ⟨hke, h6, hlo, hE⟩ := hT c337
                    refine lv_iload hx hb dX8_leastLike_61 (lv_at hl 4 rfl) ?_
                    refine lv_aload_n hx hb dX8_leastLike_63 rfl (lv_at hl 0 rfl) ?_
                    refine z_get (v := .ref wmy) C hz a332 zl8 mFX8_23 (by decide) rfl dX8_leastLike_64 ?_
                    refine lv_iload_n hx hb dX8_leastLike_67 rfl (lv_at hl 1 rfl) ?_
                    refine z_iald nn C hz a334 rfl (by omega) (by omega) dX8_leastLike_68 ?_
                    refine lv_topi (fun y339 e340 => ?_)
                    obtain rfl : y339 = nI t := e340.trans hmt
                    refine lv_icmp_ge (tgt := 143) hx hb dX8_leastLike_69 (by decide) (fun c341 => ?_) (fun c341 => ?_)
                    · replace c341 : (t ≤ kx) := (nI_leI (a := t) (b := kx) (by omega) (by omega)).mp c341
                      have hC : zLC1 gk gl gc ln nn t oo := ⟨hke, h6, hlo, fun k9 h9 => hE k9 (by omega)⟩
                      refine lv_iload_n hx hb dX8_leastLike_143 rfl (lv_at hl 3 rfl) ?_
                      refine lv_if_eq (tgt := 149) hx hb dX8_leastLike_144 (by decide) (fun c342 => ?_) (fun c342 => ?_)
                      · exact absurd c342 c337
                      refine lv_iload_n hx hb dX8_leastLike_147 rfl (lv_at hl 2 rfl) ?_
                      exact z_iret C hr rfl hz hS ⟨oo, rfl, (by omega), (fun _ => hC), hno, (by
                            intro b e hb 
                            have hb0 : fL2 b = some e := k4 b e hb 
                            have hb1 : fL329 b = some e := k331 b e hb0 
                            exact hb1)⟩ (Nat.le_of_ble_eq_true rfl) (Nat.le_of_ble_eq_true rfl) dX8_leastLike_148
                    · replace c341 : ¬ (t ≤ kx) := fun h => c341 ((nI_leI (a := t) (b := kx) (by omega) (by omega)).mpr h)
                      refine lv_aload_n hx hb dX8_leastLike_72 rfl (lv_at hl 0 rfl) ?_
                      refine lv_iload_n hx hb dX8_leastLike_73 rfl (lv_at hl 1 rfl) ?_
                      refine z_callVi (As := [.int (nI nn)]) C hz hS hA hl (k_X8_isFigurePart l D cy fL329 o wev wnb wki wmy wce wiw wli wha wwt wfy wfk wem wna wpl whs wk1 wk2 wk3 u1 u2 u3 nl nn nf nc lk ks gk nn a332 a333 (by omega)) zyX8_isFigurePart mMX8_86 a332 zl8 rfl rfl (Nat.le_of_ble_eq_true rfl) ⟨Nat.le_of_ble_eq_true rfl, Nat.le_of_ble_eq_true rfl⟩ ⟨Nat.le_of_ble_eq_true rfl, Nat.le_of_ble_eq_true rfl⟩ dX8_leastLike_74 (fun r f343 H locs h344 hz hS => ?_)
                      obtain ⟨rfl, k345⟩ := h344
                      refine lv_if_eq (tgt := 113) hx hb dX8_leastLike_77 (by decide) (fun c346 => ?_) (fun c346 => ?_)
                      · have hkn0 : ¬ gk nn = 4 := fun h9 => by
                          rw [if_pos h9] at c346
                          exact absurd c346 (by decide)
                        refine lv_aload_n hx hb dX8_leastLike_113 rfl (lv_at hl 0 rfl) ?_
                        refine lv_iload_n hx hb dX8_leastLike_114 rfl (lv_at hl 2 rfl) ?_
                        refine lv_iload hx hb dX8_leastLike_115 (lv_at hl 4 rfl) ?_
                        have a347 : f343 o = some (.inr (8, [.int u1, .int u2, .int u3, .ref wev, .int (nI nl), .ref wnb, .int (nI nn), .ref wki, .ref wmy, .ref wce, .ref wiw, .ref wli, .ref wha, .ref wwt, .int (nI nf), .ref wfy, .ref wfk, .int (nI nc), .ref wem, .ref wna, .ref wpl, .ref whs, .long lk, .int (nI ks), .ref wk1, .ref wk2, .ref wk3])) := k345 _ _ a332 
                        have a348 : f343 wce = some (.inl (cy 1, 960, .inr (.inl gc))) := k345 _ _ a335 
                        refine z_callVl (As := [.int (nI oo), .int (nI kx)]) C hz hS hA hl (k_X8_cellOf l D cy f343 o wev wnb wki wmy wce wiw wli wha wwt wfy wfk wem wna wpl whs wk1 wk2 wk3 u1 u2 u3 nl nn nf nc lk ks gc oo kx a347 a348 (by omega)) zyX8_cellOf mMX8_90 a347 zl8 rfl rfl (Nat.le_of_ble_eq_true rfl) ⟨Nat.le_of_ble_eq_true rfl, Nat.le_of_ble_eq_true rfl⟩ ⟨Nat.le_of_ble_eq_true rfl, Nat.le_of_ble_eq_true rfl⟩ dX8_leastLike_117 (fun r f349 H locs h350 hz hS => ?_)
                        obtain ⟨rfl, k351⟩ := h350
                        refine lv_aload_n hx hb dX8_leastLike_120 rfl (lv_at hl 0 rfl) ?_
                        refine lv_iload_n hx hb dX8_leastLike_121 rfl (lv_at hl 1 rfl) ?_
                        refine lv_iload hx hb dX8_leastLike_122 (lv_at hl 4 rfl) ?_
                        have a352 : f349 o = some (.inr (8, [.int u1, .int u2, .int u3, .ref wev, .int (nI nl), .ref wnb, .int (nI nn), .ref wki, .ref wmy, .ref wce, .ref wiw, .ref wli, .ref wha, .ref wwt, .int (nI nf), .ref wfy, .ref wfk, .int (nI nc), .ref wem, .ref wna, .ref wpl, .ref whs, .long lk, .int (nI ks), .ref wk1, .ref wk2, .ref wk3])) := k351 _ _ a347 
                        have a353 : f349 wce = some (.inl (cy 1, 960, .inr (.inl gc))) := k351 _ _ a348 
                        refine z_callVl (As := [.int (nI nn), .int (nI kx)]) C hz hS hA hl (k_X8_cellOf l D cy f349 o wev wnb wki wmy wce wiw wli wha wwt wfy wfk wem wna wpl whs wk1 wk2 wk3 u1 u2 u3 nl nn nf nc lk ks gc nn kx a352 a353 (by omega)) zyX8_cellOf mMX8_90 a352 zl8 rfl rfl (Nat.le_of_ble_eq_true rfl) ⟨Nat.le_of_ble_eq_true rfl, Nat.le_of_ble_eq_true rfl⟩ ⟨Nat.le_of_ble_eq_true rfl, Nat.le_of_ble_eq_true rfl⟩ dX8_leastLike_124 (fun r f354 H locs h355 hz hS => ?_)
                        obtain ⟨rfl, k356⟩ := h355
                        refine W.lcmp hx hb dX8_leastLike_127 ?_
                        refine lv_if_ne (tgt := 135) hx hb dX8_leastLike_128 (by decide) (fun c357 => ?_) (fun c357 => ?_)
                        · refine lv_iconst (v := 0) hx hb dX8_leastLike_135 (by decide) ?_
                          refine lv_istore_n (lv' := [(3, .int 0), (0, .ref o), (1, .int (nI nn)), (2, .int (nI oo)), (4, .int (nI kx))]) hx hb dX8_leastLike_136 rfl hl (by decide) rfl (fun ls hl => ?_)
                          refine lv_iinc (v := nI (kx + 1)) (lv' := [(4, .int (nI (kx + 1))), (3, .int 0), (0, .ref o), (1, .int (nI nn)), (2, .int (nI oo))]) hx hb dX8_leastLike_137 hl (k := 4) rfl (nI_1 kx) (by decide) rfl (fun ls hl => ?_)
                          refine lv_goto (tgt := 57) hx hb dX8_leastLike_140 (by decide) ?_
                          have a358 : f354 o = some (.inr (8, [.int u1, .int u2, .int u3, .ref wev, .int (nI nl), .ref wnb, .int (nI nn), .ref wki, .ref wmy, .ref wce, .ref wiw, .ref wli, .ref wha, .ref wwt, .int (nI nf), .ref wfy, .ref wfk, .int (nI nc), .ref wem, .ref wna, .ref wpl, .ref whs, .long lk, .int (nI ks), .ref wk1, .ref wk2, .ref wk3])) := k356 _ _ a352 
                          have a359 : f343 wki = some (.inl (cy 0, 60, .inl gk)) := k345 _ _ a333 
                          have a360 : f349 wki = some (.inl (cy 0, 60, .inl gk)) := k351 _ _ a359 
                          have a361 : f354 wki = some (.inl (cy 0, 60, .inl gk)) := k356 _ _ a360 
                          have a362 : f343 wmy = some (.inl (cy 0, 60, .inl gm)) := k345 _ _ a334 
                          have a363 : f349 wmy = some (.inl (cy 0, 60, .inl gm)) := k351 _ _ a362 
                          have a364 : f354 wmy = some (.inl (cy 0, 60, .inl gm)) := k356 _ _ a363 
                          have a365 : f354 wce = some (.inl (cy 1, 960, .inr (.inl gc))) := k356 _ _ a353 
                          have a366 : f343 wli = some (.inl (cy 0, 60, .inl gl)) := k345 _ _ a336 
                          have a367 : f349 wli = some (.inl (cy 0, 60, .inl gl)) := k351 _ _ a366 
                          have a368 : f354 wli = some (.inl (cy 0, 60, .inl gl)) := k356 _ _ a367 
                          exact ih_330 (kx + 1) 0 _ _ _ _ (by omega) (by omega) (fun h9 => absurd rfl h9) (fun _ c9 => absurd (c9.2.2.2 kx (by omega)) (by rw [zLE, if_neg hkn0]; exact fun h9 => c357 ((lg_cmp_eq _ _).mpr h9))) a358 a361 a364 a365 a368 (by
                                intro b e hb 
                                have hb1 : fL329 b = some e := k331 b e hb 
                                have hb2 : f343 b = some e := k345 b e hb1 
                                have hb3 : f349 b = some e := k351 b e hb2 
                                have hb4 : f354 b = some e := k356 b e hb3 
                                exact hb4) hz hS (lv_sub hl [2, 3, 4, 1, 0] rfl)
                        · refine lv_iconst (v := 1) hx hb dX8_leastLike_131 (by decide) ?_
                          refine lv_goto (tgt := 136) hx hb dX8_leastLike_132 (by decide) ?_
                          refine lv_istore_n (lv' := [(3, .int 1), (0, .ref o), (1, .int (nI nn)), (2, .int (nI oo)), (4, .int (nI kx))]) hx hb dX8_leastLike_136 rfl hl (by decide) rfl (fun ls hl => ?_)
                          refine lv_iinc (v := nI (kx + 1)) (lv' := [(4, .int (nI (kx + 1))), (3, .int 1), (0, .ref o), (1, .int (nI nn)), (2, .int (nI oo))]) hx hb dX8_leastLike_137 hl (k := 4) rfl (nI_1 kx) (by decide) rfl (fun ls hl => ?_)
                          refine lv_goto (tgt := 57) hx hb dX8_leastLike_140 (by decide) ?_
                          have a369 : f354 o = some (.inr (8, [.int u1, .int u2, .int u3, .ref wev, .int (nI nl), .ref wnb, .int (nI nn), .ref wki, .ref wmy, .ref wce, .ref wiw, .ref wli, .ref wha, .ref wwt, .int (nI nf), .ref wfy, .ref wfk, .int (nI nc), .ref wem, .ref wna, .ref wpl, .ref whs, .long lk, .int (nI ks), .ref wk1, .ref wk2, .ref wk3])) := k356 _ _ a352 
                          have a370 : f343 wki = some (.inl (cy 0, 60, .inl gk)) := k345 _ _ a333 
                          have a371 : f349 wki = some (.inl (cy 0, 60, .inl gk)) := k351 _ _ a370 
                          have a372 : f354 wki = some (.inl (cy 0, 60, .inl gk)) := k356 _ _ a371 
                          have a373 : f343 wmy = some (.inl (cy 0, 60, .inl gm)) := k345 _ _ a334 
                          have a374 : f349 wmy = some (.inl (cy 0, 60, .inl gm)) := k351 _ _ a373 
                          have a375 : f354 wmy = some (.inl (cy 0, 60, .inl gm)) := k356 _ _ a374 
                          have a376 : f354 wce = some (.inl (cy 1, 960, .inr (.inl gc))) := k356 _ _ a353 
                          have a377 : f343 wli = some (.inl (cy 0, 60, .inl gl)) := k345 _ _ a336 
                          have a378 : f349 wli = some (.inl (cy 0, 60, .inl gl)) := k351 _ _ a377 
                          have a379 : f354 wli = some (.inl (cy 0, 60, .inl gl)) := k356 _ _ a378 
                          exact ih_330 (kx + 1) 1 _ _ _ _ (by omega) (by omega) (fun _ => ⟨hke, h6, hlo, zLE_st hE (by rw [zLE, if_neg hkn0]; exact (lg_cmp_eq _ _).mp c357)⟩) (fun h9 => absurd h9 (by decide)) a369 a372 a375 a376 a379 (by
                                intro b e hb 
                                have hb1 : fL329 b = some e := k331 b e hb 
                                have hb2 : f343 b = some e := k345 b e hb1 
                                have hb3 : f349 b = some e := k351 b e hb2 
                                have hb4 : f354 b = some e := k356 b e hb3 
                                exact hb4) hz hS (lv_sub hl [2, 3, 4, 1, 0] rfl)
                      · have hkn : gk nn = 4 := by
                          by_cases h9 : gk nn = 4
                          · exact h9
                          · exact absurd (by rw [if_neg h9]) c346
                        have hko : gk oo = 4 := hke.trans hkn
                        refine lv_aload_n hx hb dX8_leastLike_80 rfl (lv_at hl 0 rfl) ?_
                        refine lv_aload_n hx hb dX8_leastLike_81 rfl (lv_at hl 0 rfl) ?_
                        refine lv_iload_n hx hb dX8_leastLike_82 rfl (lv_at hl 2 rfl) ?_
                        refine lv_iload hx hb dX8_leastLike_83 (lv_at hl 4 rfl) ?_
                        have a380 : f343 o = some (.inr (8, [.int u1, .int u2, .int u3, .ref wev, .int (nI nl), .ref wnb, .int (nI nn), .ref wki, .ref wmy, .ref wce, .ref wiw, .ref wli, .ref wha, .ref wwt, .int (nI nf), .ref wfy, .ref wfk, .int (nI nc), .ref wem, .ref wna, .ref wpl, .ref whs, .long lk, .int (nI ks), .ref wk1, .ref wk2, .ref wk3])) := k345 _ _ a332 
                        have a381 : f343 wce = some (.inl (cy 1, 960, .inr (.inl gc))) := k345 _ _ a335 
                        refine z_callVl (As := [.int (nI oo), .int (nI kx)]) C hz hS hA hl (k_X8_cellOf l D cy f343 o wev wnb wki wmy wce wiw wli wha wwt wfy wfk wem wna wpl whs wk1 wk2 wk3 u1 u2 u3 nl nn nf nc lk ks gc oo kx a380 a381 (by omega)) zyX8_cellOf mMX8_90 a380 zl8 rfl rfl (Nat.le_of_ble_eq_true rfl) ⟨Nat.le_of_ble_eq_true rfl, Nat.le_of_ble_eq_true rfl⟩ ⟨Nat.le_of_ble_eq_true rfl, Nat.le_of_ble_eq_true rfl⟩ dX8_leastLike_85 (fun r f382 H locs h383 hz hS => ?_)
                        obtain ⟨rfl, k384⟩ := h383
                        have a385 : f382 o = some (.inr (8, [.int u1, .int u2, .int u3, .ref wev, .int (nI nl), .ref wnb, .int (nI nn), .ref wki, .ref wmy, .ref wce, .ref wiw, .ref wli, .ref wha, .ref wwt, .int (nI nf), .ref wfy, .ref wfk, .int (nI nc), .ref wem, .ref wna, .ref wpl, .ref whs, .long lk, .int (nI ks), .ref wk1, .ref wk2, .ref wk3])) := k384 _ _ a380 
                        have a386 : f343 wli = some (.inl (cy 0, 60, .inl gl)) := k345 _ _ a336 
                        have a387 : f382 wli = some (.inl (cy 0, 60, .inl gl)) := k384 _ _ a386 
                        refine z_callVi (As := [.long (gc (16 * oo + kx))]) C hz hS hA hl (k_X8_likeOf l D cy f382 o wev wnb wki wmy wce wiw wli wha wwt wfy wfk wem wna wpl whs wk1 wk2 wk3 u1 u2 u3 nl nn nf nc lk ks gl (gc (16 * oo + kx)) a385 a387 (z_ref hMP (by omega) (by omega) hko (by omega))) zyX8_likeOf mMX8_94 a385 zl8 rfl rfl (Nat.le_of_ble_eq_true rfl) ⟨Nat.le_of_ble_eq_true rfl, Nat.le_of_ble_eq_true rfl⟩ ⟨Nat.le_of_ble_eq_true rfl, Nat.le_of_ble_eq_true rfl⟩ dX8_leastLike_88 (fun r f388 H locs h389 hz hS => ?_)
                        obtain ⟨rfl, k390⟩ := h389
                        refine lv_aload_n hx hb dX8_leastLike_91 rfl (lv_at hl 0 rfl) ?_
                        refine lv_aload_n hx hb dX8_leastLike_92 rfl (lv_at hl 0 rfl) ?_
                        refine lv_iload_n hx hb dX8_leastLike_93 rfl (lv_at hl 1 rfl) ?_
                        refine lv_iload hx hb dX8_leastLike_94 (lv_at hl 4 rfl) ?_
                        have a391 : f388 o = some (.inr (8, [.int u1, .int u2, .int u3, .ref wev, .int (nI nl), .ref wnb, .int (nI nn), .ref wki, .ref wmy, .ref wce, .ref wiw, .ref wli, .ref wha, .ref wwt, .int (nI nf), .ref wfy, .ref wfk, .int (nI nc), .ref wem, .ref wna, .ref wpl, .ref whs, .long lk, .int (nI ks), .ref wk1, .ref wk2, .ref wk3])) := k390 _ _ a385 
                        have a392 : f382 wce = some (.inl (cy 1, 960, .inr (.inl gc))) := k384 _ _ a381 
                        have a393 : f388 wce = some (.inl (cy 1, 960, .inr (.inl gc))) := k390 _ _ a392 
                        refine z_callVl (As := [.int (nI nn), .int (nI kx)]) C hz hS hA hl (k_X8_cellOf l D cy f388 o wev wnb wki wmy wce wiw wli wha wwt wfy wfk wem wna wpl whs wk1 wk2 wk3 u1 u2 u3 nl nn nf nc lk ks gc nn kx a391 a393 (by omega)) zyX8_cellOf mMX8_90 a391 zl8 rfl rfl (Nat.le_of_ble_eq_true rfl) ⟨Nat.le_of_ble_eq_true rfl, Nat.le_of_ble_eq_true rfl⟩ ⟨Nat.le_of_ble_eq_true rfl, Nat.le_of_ble_eq_true rfl⟩ dX8_leastLike_96 (fun r f394 H locs h395 hz hS => ?_)
                        obtain ⟨rfl, k396⟩ := h395
                        have a397 : f394 o = some (.inr (8, [.int u1, .int u2, .int u3, .ref wev, .int (nI nl), .ref wnb, .int (nI nn), .ref wki, .ref wmy, .ref wce, .ref wiw, .ref wli, .ref wha, .ref wwt, .int (nI nf), .ref wfy, .ref wfk, .int (nI nc), .ref wem, .ref wna, .ref wpl, .ref whs, .long lk, .int (nI ks), .ref wk1, .ref wk2, .ref wk3])) := k396 _ _ a391 
                        have a398 : f388 wli = some (.inl (cy 0, 60, .inl gl)) := k390 _ _ a387 
                        have a399 : f394 wli = some (.inl (cy 0, 60, .inl gl)) := k396 _ _ a398 
                        refine z_callVi (As := [.long (gc (16 * nn + kx))]) C hz hS hA hl (k_X8_likeOf l D cy f394 o wev wnb wki wmy wce wiw wli wha wwt wfy wfk wem wna wpl whs wk1 wk2 wk3 u1 u2 u3 nl nn nf nc lk ks gl (gc (16 * nn + kx)) a397 a399 (z_r60 (by omega) (hrf hkn kx (by omega)))) zyX8_likeOf mMX8_94 a397 zl8 rfl rfl (Nat.le_of_ble_eq_true rfl) ⟨Nat.le_of_ble_eq_true rfl, Nat.le_of_ble_eq_true rfl⟩ ⟨Nat.le_of_ble_eq_true rfl, Nat.le_of_ble_eq_true rfl⟩ dX8_leastLike_99 (fun r f400 H locs h401 hz hS => ?_)
                        obtain ⟨rfl, k402⟩ := h401
                        refine lv_icmp_ne (tgt := 109) hx hb dX8_leastLike_102 (by decide) (fun c403 => ?_) (fun c403 => ?_)
                        · refine lv_iconst (v := 0) hx hb dX8_leastLike_109 (by decide) ?_
                          refine lv_goto (tgt := 136) hx hb dX8_leastLike_110 (by decide) ?_
                          refine lv_istore_n (lv' := [(3, .int 0), (0, .ref o), (1, .int (nI nn)), (2, .int (nI oo)), (4, .int (nI kx))]) hx hb dX8_leastLike_136 rfl hl (by decide) rfl (fun ls hl => ?_)
                          refine lv_iinc (v := nI (kx + 1)) (lv' := [(4, .int (nI (kx + 1))), (3, .int 0), (0, .ref o), (1, .int (nI nn)), (2, .int (nI oo))]) hx hb dX8_leastLike_137 hl (k := 4) rfl (nI_1 kx) (by decide) rfl (fun ls hl => ?_)
                          refine lv_goto (tgt := 57) hx hb dX8_leastLike_140 (by decide) ?_
                          have a404 : f400 o = some (.inr (8, [.int u1, .int u2, .int u3, .ref wev, .int (nI nl), .ref wnb, .int (nI nn), .ref wki, .ref wmy, .ref wce, .ref wiw, .ref wli, .ref wha, .ref wwt, .int (nI nf), .ref wfy, .ref wfk, .int (nI nc), .ref wem, .ref wna, .ref wpl, .ref whs, .long lk, .int (nI ks), .ref wk1, .ref wk2, .ref wk3])) := k402 _ _ a397 
                          have a405 : f343 wki = some (.inl (cy 0, 60, .inl gk)) := k345 _ _ a333 
                          have a406 : f382 wki = some (.inl (cy 0, 60, .inl gk)) := k384 _ _ a405 
                          have a407 : f388 wki = some (.inl (cy 0, 60, .inl gk)) := k390 _ _ a406 
                          have a408 : f394 wki = some (.inl (cy 0, 60, .inl gk)) := k396 _ _ a407 
                          have a409 : f400 wki = some (.inl (cy 0, 60, .inl gk)) := k402 _ _ a408 
                          have a410 : f343 wmy = some (.inl (cy 0, 60, .inl gm)) := k345 _ _ a334 
                          have a411 : f382 wmy = some (.inl (cy 0, 60, .inl gm)) := k384 _ _ a410 
                          have a412 : f388 wmy = some (.inl (cy 0, 60, .inl gm)) := k390 _ _ a411 
                          have a413 : f394 wmy = some (.inl (cy 0, 60, .inl gm)) := k396 _ _ a412 
                          have a414 : f400 wmy = some (.inl (cy 0, 60, .inl gm)) := k402 _ _ a413 
                          have a415 : f394 wce = some (.inl (cy 1, 960, .inr (.inl gc))) := k396 _ _ a393 
                          have a416 : f400 wce = some (.inl (cy 1, 960, .inr (.inl gc))) := k402 _ _ a415 
                          have a417 : f400 wli = some (.inl (cy 0, 60, .inl gl)) := k402 _ _ a399 
                          exact ih_330 (kx + 1) 0 _ _ _ _ (by omega) (by omega) (fun h9 => absurd rfl h9) (fun _ c9 => absurd (c9.2.2.2 kx (by omega)) (by rw [zLE, if_pos hkn]; exact c403)) a404 a409 a414 a416 a417 (by
                                intro b e hb 
                                have hb1 : fL329 b = some e := k331 b e hb 
                                have hb2 : f343 b = some e := k345 b e hb1 
                                have hb3 : f382 b = some e := k384 b e hb2 
                                have hb4 : f388 b = some e := k390 b e hb3 
                                have hb5 : f394 b = some e := k396 b e hb4 
                                have hb6 : f400 b = some e := k402 b e hb5 
                                exact hb6) hz hS (lv_sub hl [2, 3, 4, 1, 0] rfl)
                        · refine lv_iconst (v := 1) hx hb dX8_leastLike_105 (by decide) ?_
                          refine lv_goto (tgt := 136) hx hb dX8_leastLike_106 (by decide) ?_
                          refine lv_istore_n (lv' := [(3, .int 1), (0, .ref o), (1, .int (nI nn)), (2, .int (nI oo)), (4, .int (nI kx))]) hx hb dX8_leastLike_136 rfl hl (by decide) rfl (fun ls hl => ?_)
                          refine lv_iinc (v := nI (kx + 1)) (lv' := [(4, .int (nI (kx + 1))), (3, .int 1), (0, .ref o), (1, .int (nI nn)), (2, .int (nI oo))]) hx hb dX8_leastLike_137 hl (k := 4) rfl (nI_1 kx) (by decide) rfl (fun ls hl => ?_)
                          refine lv_goto (tgt := 57) hx hb dX8_leastLike_140 (by decide) ?_
                          have a418 : f400 o = some (.inr (8, [.int u1, .int u2, .int u3, .ref wev, .int (nI nl), .ref wnb, .int (nI nn), .ref wki, .ref wmy, .ref wce, .ref wiw, .ref wli, .ref wha, .ref wwt, .int (nI nf), .ref wfy, .ref wfk, .int (nI nc), .ref wem, .ref wna, .ref wpl, .ref whs, .long lk, .int (nI ks), .ref wk1, .ref wk2, .ref wk3])) := k402 _ _ a397 
                          have a419 : f343 wki = some (.inl (cy 0, 60, .inl gk)) := k345 _ _ a333 
                          have a420 : f382 wki = some (.inl (cy 0, 60, .inl gk)) := k384 _ _ a419 
                          have a421 : f388 wki = some (.inl (cy 0, 60, .inl gk)) := k390 _ _ a420 
                          have a422 : f394 wki = some (.inl (cy 0, 60, .inl gk)) := k396 _ _ a421 
                          have a423 : f400 wki = some (.inl (cy 0, 60, .inl gk)) := k402 _ _ a422 
                          have a424 : f343 wmy = some (.inl (cy 0, 60, .inl gm)) := k345 _ _ a334 
                          have a425 : f382 wmy = some (.inl (cy 0, 60, .inl gm)) := k384 _ _ a424 
                          have a426 : f388 wmy = some (.inl (cy 0, 60, .inl gm)) := k390 _ _ a425 
                          have a427 : f394 wmy = some (.inl (cy 0, 60, .inl gm)) := k396 _ _ a426 
                          have a428 : f400 wmy = some (.inl (cy 0, 60, .inl gm)) := k402 _ _ a427 
                          have a429 : f394 wce = some (.inl (cy 1, 960, .inr (.inl gc))) := k396 _ _ a393 
                          have a430 : f400 wce = some (.inl (cy 1, 960, .inr (.inl gc))) := k402 _ _ a429 
                          have a431 : f400 wli = some (.inl (cy 0, 60, .inl gl)) := k402 _ _ a399 
                          exact ih_330 (kx + 1) 1 _ _ _ _ (by omega) (by omega) (fun _ => ⟨hke, h6, hlo, zLE_st hE (by rw [zLE, if_pos hkn]; exact c403)⟩) (fun h9 => absurd h9 (by decide)) a418 a423 a428 a430 a431 (by
                                intro b e hb 
                                have hb1 : fL329 b = some e := k331 b e hb 
                                have hb2 : f343 b = some e := k345 b e hb1 
                                have hb3 : f382 b = some e := k384 b e hb2 
                                have hb4 : f388 b = some e := k390 b e hb3 
                                have hb5 : f394 b = some e := k396 b e hb4 
                                have hb6 : f400 b = some e := k402 b e hb5 
                                exact hb6) hz hS (lv_sub hl [2, 3, 4, 1, 0] rfl)
              exact lp328 (t - 0 + 1) 0 1 _ _ _ _ (Nat.lt_succ_self _) (by omega) (fun _ => ⟨c11, c116, (nI_eq (by have h8 := (hMP oo (by omega)).2.1; omega) (by omega)).mp ((hMP oo (by omega)).1.symm.trans c223), fun k9 h9 => absurd h9 (Nat.not_lt_zero _)⟩) (fun h9 => absurd h9 (by decide)) a5 a6 a7 a8 a9 (fun b e hb => hb) hz hS (lv_sub hl [2, 3, 4, 1, 0] rfl)
  exact lp1 (nn - 0 + 1) 0 _ _ _ _ (Nat.lt_succ_self _) (by omega) (fun o9 h9 => absurd h9 (Nat.not_lt_zero _)) p0 p1 p2 p3 p4 (fun b e hb => hb) hz hS (lv_sub hl [1, 2, 0] rfl)
