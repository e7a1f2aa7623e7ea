abbrev rmX8_hashOf : Room := { frames := 1, cells := 0, slots := 0, locals := 22 }
set_option maxHeartbeats 4000000 in
set_option maxRecDepth 100000 in
theorem k_X8_hashOf (l : Launch) (D : va_G) (cy : Nat → ClassId) (f : zM) (o : Nat) (wev : Nat) (wnb : Nat) (wki : Nat) (wmy : Nat) (wce : Nat) (wiw : Nat) (wli : Nat) (wha : Nat) (wwt : Nat) (wfy : Nat) (wfk : Nat) (wem : Nat) (wna : Nat) (wpl : Nat) (whs : Nat) (wk1 : Nat) (wk2 : Nat) (wk3 : Nat) (u1 : Int32) (u2 : Int32) (u3 : Int32) (nl : Nat) (nn : Nat) (nf : Nat) (nc : Nat) (lk : Int64) (ks : Nat) (gk : Nat → Int32) (gm : Nat → Int32) (gc : Nat → Int64) (gh : Nat → Int32) (t : Nat) (p0 : f o = some (.inr (8, [.int u1, .int u2, .int u3, .ref wev, .int (nI nl), .ref wnb, .int (nI nn), .ref wki, .ref wmy, .ref wce, .ref wiw, .ref wli, .ref wha, .ref wwt, .int (nI nf), .ref wfy, .ref wfk, .int (nI nc), .ref wem, .ref wna, .ref wpl, .ref whs, .long lk, .int (nI ks), .ref wk1, .ref wk2, .ref wk3]))) (p1 : f wki = some (.inl (cy 0, 60, .inl gk))) (p2 : f wmy = some (.inl (cy 0, 60, .inl gm))) (p3 : f wce = some (.inl (cy 1, 960, .inr (.inl gc)))) (p4 : f wha = some (.inl (cy 0, 60, .inl gh)))  (hn59 : nn < 60) (hmt : gm nn = nI t) (ht : t ≤ 15) (hrf : gk nn = 4 → ∀ k, k < t → gc (16 * nn + k) = (-1) ∨ ∃ j9, j9 < nn ∧ gc (16 * nn + k) = lN j9) : zCi l D cy yX8_hashOf cX8_hashOf 6 (Option.some Jvm.ClassFile.FieldType.int) rmX8_hashOf [.ref o, .int (nI nn)] f (fun (r : Int32) (f1 : zM) => r = (zHash (gk nn) nn t (fun k => gc (16 * nn + k)) gh) ∧ (∀ (b : Nat) (e : va_E), f b = some e → f1 b = some e)) := by
  intro sz
  refine z_body (by decide +kernel) (Nat.le_of_ble_eq_true rfl) ?_
  intro p e s m below meth c ls C hr hin hsz hz hl
  subst hsz
  have hx := C.1
  have hb := C.2.1
  have hA : ∀ q, s.heap.size ≤ q → zA f s.heap.size q := fun q h => Or.inr h
  have hS : va_S (zA f s.heap.size) s.heap s.heap [] := va_S.rf
  have hl : lv_has ls 6 [(0, .ref o), (1, .int (nI nn))] := hl
  refine lv_aload_n hx hb dX8_hashOf_0 rfl (lv_at hl 0 rfl) ?_
  refine z_get (v := .ref wki) C hz p0 zl8 mFX8_20 (by decide) rfl dX8_hashOf_1 ?_
  refine lv_iload_n hx hb dX8_hashOf_4 rfl (lv_at hl 1 rfl) ?_
  refine z_iald nn C hz p1 rfl hn59 (by omega) dX8_hashOf_5 ?_
  refine lv_istore_n (lv' := [(2, .int (gk nn)), (0, .ref o), (1, .int (nI nn))]) hx hb dX8_hashOf_6 rfl hl (by decide) rfl (fun ls hl => ?_)
  refine lv_aload_n hx hb dX8_hashOf_7 rfl (lv_at hl 1 rfl) ?_
  refine z_get (v := .ref wki) C hz p0 zl8 mFX8_20 (by decide) rfl dX8_hashOf_8 ?_
  refine lv_iload_n hx hb dX8_hashOf_11 rfl (lv_at hl 2 rfl) ?_
  refine z_iald nn C hz p1 rfl hn59 (by omega) dX8_hashOf_12 ?_
  refine lv_bipush (v := 6) hx hb dX8_hashOf_13 (by decide) ?_
  refine lv_icmp_ne (tgt := 29) hx hb dX8_hashOf_15 (by decide) (fun c1 => ?_) (fun c1 => ?_)
  · refine lv_iconst (v := 0) hx hb dX8_hashOf_29 (by decide) ?_
    refine lv_istore_n (lv' := [(3, .int 0), (2, .int (gk nn)), (0, .ref o), (1, .int (nI nn))]) hx hb dX8_hashOf_30 rfl hl (by decide) rfl (fun ls hl => ?_)
    have lp2 : ∀ (n : Nat) (hv : Int32) (i : Nat) (fL3 : zM) (H : Heap) (locs : List Loc) (ls : Array Slot), (t - i) < n → (i ≤ t) → (hv = zHF (gk nn) nn gh (fun k => gc (16 * nn + k)) i) → fL3 o = some (.inr (8, [.int u1, .int u2, .int u3, .ref wev, .int (nI nl), .ref wnb, .int (nI nn), .ref wki, .ref wmy, .ref wce, .ref wiw, .ref wli, .ref wha, .ref wwt, .int (nI nf), .ref wfy, .ref wfk, .int (nI nc), .ref wem, .ref wna, .ref wpl, .ref whs, .long lk, .int (nI ks), .ref wk1, .ref wk2, .ref wk3])) → fL3 wki = some (.inl (cy 0, 60, .inl gk)) → fL3 wmy = some (.inl (cy 0, 60, .inl gm)) → fL3 wce = some (.inl (cy 1, 960, .inr (.inl gc))) → fL3 wha = some (.inl (cy 0, 60, .inl gh)) → (∀ (b : Nat) (e : va_E), f b = some e → fL3 b = some e) → zH D (zA f s.heap.size) fL3 H → va_S (zA f s.heap.size) s.heap H locs → lv_has ls 6 [(0, .ref o), (1, .int (nI nn)), (2, .int hv), (3, .int (nI i))] → W p l e rmX8_hashOf s m ([.ref o, .int (nI nn)] : List Value).toArray below meth c H locs 0 0 (MQ below (va_Qi (fun (r : Int32) (f1 : zM) => r = (zHash (gk nn) nn t (fun k => gc (16 * nn + k)) gh) ∧ (∀ (b : Nat) (e : va_E), f b = some e → f1 b = some e)) (zB D f s.heap.size) (zA f s.heap.size)) ([.ref o, .int (nI nn)] : List Value).toArray s rmX8_hashOf.cells rmX8_hashOf.slots (zA f s.heap.size)) (F0 m 31 ls []) := by
      intro n
      induction n with
      | zero => intro hv i fL3 H locs ls hmz; exact absurd hmz (Nat.not_lt_zero _)
      | succ n ih =>
        intro hv i fL3 H locs ls hmz hi hhv a5 a6 a7 a8 a9 k4 hz hS hl
        refine lv_iload_n hx hb dX8_hashOf_31 rfl (lv_at hl 3 rfl) ?_
        refine lv_aload_n hx hb dX8_hashOf_32 rfl (lv_at hl 0 rfl) ?_
        refine z_get (v := .ref wmy) C hz a5 zl8 mFX8_23 (by decide) rfl dX8_hashOf_33 ?_
        refine lv_iload_n hx hb dX8_hashOf_36 rfl (lv_at hl 1 rfl) ?_
        refine z_iald nn C hz a7 rfl hn59 (by omega) dX8_hashOf_37 ?_
        refine lv_topi (fun y10 e11 => ?_)
        obtain rfl : y10 = nI t := e11.trans hmt
        refine lv_icmp_ge (tgt := 98) hx hb dX8_hashOf_38 (by decide) (fun c12 => ?_) (fun c12 => ?_)
        · replace c12 : (t ≤ i) := (nI_leI (a := t) (b := i) (by omega) (by omega)).mp c12
          refine lv_iload_n hx hb dX8_hashOf_98 rfl (lv_at hl 2 rfl) ?_
          exact z_iret C hr rfl hz hS ⟨(by rw [zHash, if_neg c1, show t = i by omega]; exact hhv), (by
                intro b e hb 
                have hb0 : fL3 b = some e := k4 b e hb 
                exact hb0)⟩ (Nat.le_of_ble_eq_true rfl) (Nat.le_of_ble_eq_true rfl) dX8_hashOf_99
        · replace c12 : ¬ (t ≤ i) := fun h => c12 ((nI_leI (a := t) (b := i) (by omega) (by omega)).mpr h)
          refine lv_aload_n hx hb dX8_hashOf_41 rfl (lv_at hl 0 rfl) ?_
          refine lv_iload_n hx hb dX8_hashOf_42 rfl (lv_at hl 1 rfl) ?_
          refine lv_iload_n hx hb dX8_hashOf_43 rfl (lv_at hl 3 rfl) ?_
          refine z_callVl (As := [.int (nI nn), .int (nI i)]) C hz hS hA hl (k_X8_cellOf l D cy fL3 o wev wnb wki wmy wce wiw wli wha wwt wfy wfk wem wna wpl whs wk1 wk2 wk3 u1 u2 u3 nl nn nf nc lk ks gc nn i a5 a8 (by omega)) zyX8_cellOf mMX8_90 a5 zl8 rfl rfl (Nat.le_of_ble_eq_true rfl) ⟨Nat.le_of_ble_eq_true rfl, Nat.le_of_ble_eq_true rfl⟩ ⟨Nat.le_of_ble_eq_true rfl, Nat.le_of_ble_eq_true rfl⟩ dX8_hashOf_44 (fun r f13 H locs h14 hz hS => ?_)
          obtain ⟨rfl, k15⟩ := h14
          refine lv_lstore (lv' := [(4, .long (gc (16 * nn + i))), (0, .ref o), (1, .int (nI nn)), (2, .int hv), (3, .int (nI i))]) hx hb dX8_hashOf_47 hl (by decide) rfl (fun ls hl => ?_)
          refine lv_bipush (v := 31) hx hb dX8_hashOf_49 (by decide) ?_
          refine lv_iload_n hx hb dX8_hashOf_51 rfl (lv_at hl 3 rfl) ?_
          refine lv_imul hx hb dX8_hashOf_52 ?_
          refine lv_aload_n hx hb dX8_hashOf_53 rfl (lv_at hl 1 rfl) ?_
          refine lv_iload_n hx hb dX8_hashOf_54 rfl (lv_at hl 2 rfl) ?_
          have a16 : f13 o = some (.inr (8, [.int u1, .int u2, .int u3, .ref wev, .int (nI nl), .ref wnb, .int (nI nn), .ref wki, .ref wmy, .ref wce, .ref wiw, .ref wli, .ref wha, .ref wwt, .int (nI nf), .ref wfy, .ref wfk, .int (nI nc), .ref wem, .ref wna, .ref wpl, .ref whs, .long lk, .int (nI ks), .ref wk1, .ref wk2, .ref wk3])) := k15 _ _ a5 
          have a17 : f13 wki = some (.inl (cy 0, 60, .inl gk)) := k15 _ _ a6 
          refine z_callVi (As := [.int (nI nn)]) C hz hS hA hl (k_X8_isFigurePart l D cy f13 o wev wnb wki wmy wce wiw wli wha wwt wfy wfk wem wna wpl whs wk1 wk2 wk3 u1 u2 u3 nl nn nf nc lk ks gk nn a16 a17 hn59) zyX8_isFigurePart mMX8_86 a16 zl8 rfl rfl (Nat.le_of_ble_eq_true rfl) ⟨Nat.le_of_ble_eq_true rfl, Nat.le_of_ble_eq_true rfl⟩ ⟨Nat.le_of_ble_eq_true rfl, Nat.le_of_ble_eq_true rfl⟩ dX8_hashOf_55 (fun r f18 H locs h19 hz hS => ?_)
          obtain ⟨rfl, k20⟩ := h19
          refine lv_if_eq (tgt := 85) hx hb dX8_hashOf_58 (by decide) (fun c21 => ?_) (fun c21 => ?_)
          · have hk4n : ¬ gk nn = 4 := fun h9 => by
              rw [if_pos h9] at c21
              exact absurd c21 (by decide)
            refine lv_lload hx hb dX8_hashOf_85 (lv_at hl 0 rfl) ?_
            refine z_callSi (As := [.long (gc (16 * nn + i))]) C hz hS hA hl (k_X8_folded l D cy f18 (gc (16 * nn + i))  ) zyX8_folded mMX8_100 rfl rfl (Nat.le_of_ble_eq_true rfl) ⟨Nat.le_of_ble_eq_true rfl, Nat.le_of_ble_eq_true rfl⟩ ⟨Nat.le_of_ble_eq_true rfl, Nat.le_of_ble_eq_true rfl⟩ dX8_hashOf_87 (fun r f22 H locs h23 hz hS => ?_)
            obtain ⟨rfl, k24⟩ := h23
            refine lv_iadd hx hb dX8_hashOf_90 ?_
            refine lv_istore_n (lv' := [(2, .int ((31 * hv) + (zFO (gc (16 * nn + i))))), (4, .long (gc (16 * nn + i))), (0, .ref o), (1, .int (nI nn)), (3, .int (nI i))]) hx hb dX8_hashOf_91 rfl hl (by decide) rfl (fun ls hl => ?_)
            refine lv_iinc (v := nI (i + 1)) (lv' := [(3, .int (nI (i + 1))), (2, .int ((31 * hv) + (zFO (gc (16 * nn + i))))), (4, .long (gc (16 * nn + i))), (0, .ref o), (1, .int (nI nn))]) hx hb dX8_hashOf_92 hl (k := 4) rfl (nI_1 i) (by decide) rfl (fun ls hl => ?_)
            refine lv_goto (tgt := 31) hx hb dX8_hashOf_95 (by decide) ?_
            have a25 : f18 o = some (.inr (8, [.int u1, .int u2, .int u3, .ref wev, .int (nI nl), .ref wnb, .int (nI nn), .ref wki, .ref wmy, .ref wce, .ref wiw, .ref wli, .ref wha, .ref wwt, .int (nI nf), .ref wfy, .ref wfk, .int (nI nc), .ref wem, .ref wna, .ref wpl, .ref whs, .long lk, .int (nI ks), .ref wk1, .ref wk2, .ref wk3])) := k20 _ _ a16 
            have a26 : f22 o = some (.inr (8, [.int u1, .int u2, .int u3, .ref wev, .int (nI nl), .ref wnb, .int (nI nn), .ref wki, .ref wmy, .ref wce, .ref wiw, .ref wli, .ref wha, .ref wwt, .int (nI nf), .ref wfy, .ref wfk, .int (nI nc), .ref wem, .ref wna, .ref wpl, .ref whs, .long lk, .int (nI ks), .ref wk1, .ref wk2, .ref wk3])) := k24 _ _ a25 
            have a27 : f18 wki = some (.inl (cy 0, 60, .inl gk)) := k20 _ _ a17 
            have a28 : f22 wki = some (.inl (cy 0, 60, .inl gk)) := k24 _ _ a27 
            have a29 : f13 wmy = some (.inl (cy 0, 60, .inl gm)) := k15 _ _ a7 
            have a30 : f18 wmy = some (.inl (cy 0, 60, .inl gm)) := k20 _ _ a29 
            have a31 : f22 wmy = some (.inl (cy 0, 60, .inl gm)) := k24 _ _ a30 
            have a32 : f13 wce = some (.inl (cy 1, 960, .inr (.inl gc))) := k15 _ _ a8 
            have a33 : f18 wce = some (.inl (cy 1, 960, .inr (.inl gc))) := k20 _ _ a32 
            have a34 : f22 wce = some (.inl (cy 1, 960, .inr (.inl gc))) := k24 _ _ a33 
            have a35 : f13 wha = some (.inl (cy 0, 60, .inl gh)) := k15 _ _ a9 
            have a36 : f18 wha = some (.inl (cy 0, 60, .inl gh)) := k20 _ _ a35 
            have a37 : f22 wha = some (.inl (cy 0, 60, .inl gh)) := k24 _ _ a36 
            exact ih ((31 * hv) + (zFO (gc (16 * nn + i)))) (i + 1) _ _ _ _ (by omega) (by omega) (zHF_m (gp := fun k => gc (16 * nn + k)) (i := i) hk4n hhv) a26 a28 a31 a34 a37 (by
                  intro b e hb 
                  have hb0 : fL3 b = some e := k4 b e hb 
                  have hb1 : f13 b = some e := k15 b e hb0 
                  have hb2 : f18 b = some e := k20 b e hb1 
                  have hb3 : f22 b = some e := k24 b e hb2 
                  exact hb3) hz hS (lv_sub hl [3, 4, 1, 0] rfl)
          · have hk4 : gk nn = 4 := by
              by_cases h9 : gk nn = 4
              · exact h9
              · exact absurd (by rw [if_neg h9]) c21
            refine lv_lload hx hb dX8_hashOf_61 (lv_at hl 0 rfl) ?_
            refine lv_ldc2 (v := (-1)) hx hb C.2.2.2.1 (C.2.2.2.2.1 _ mKX8_98) dX8_hashOf_63 ?_
            refine W.lcmp hx hb dX8_hashOf_66 ?_
            refine lv_if_ne (tgt := 74) hx hb dX8_hashOf_67 (by decide) (fun c38 => ?_) (fun c38 => ?_)
            · obtain ⟨jr, hjr, hvr⟩ : ∃ j9, j9 < nn ∧ gc (16 * nn + i) = lN j9 := by
                rcases hrf hk4 i (by omega) with h9 | h9
                · exact absurd ((lg_cmp_eq _ _).mpr h9) c38
                · exact h9
              refine lv_aload_n hx hb dX8_hashOf_74 rfl (lv_at hl 1 rfl) ?_
              have a39 : f18 o = some (.inr (8, [.int u1, .int u2, .int u3, .ref wev, .int (nI nl), .ref wnb, .int (nI nn), .ref wki, .ref wmy, .ref wce, .ref wiw, .ref wli, .ref wha, .ref wwt, .int (nI nf), .ref wfy, .ref wfk, .int (nI nc), .ref wem, .ref wna, .ref wpl, .ref whs, .long lk, .int (nI ks), .ref wk1, .ref wk2, .ref wk3])) := k20 _ _ a16 
              refine z_get (v := .ref wha) C hz a39 zl8 mFX8_37 (by decide) rfl dX8_hashOf_75 ?_
              refine lv_lload hx hb dX8_hashOf_78 (lv_at hl 0 rfl) ?_
              refine lv_l2i (v := (gc (16 * nn + i)).toInt32) hx hb dX8_hashOf_80 rfl ?_
              have a40 : f13 wha = some (.inl (cy 0, 60, .inl gh)) := k15 _ _ a9 
              have a41 : f18 wha = some (.inl (cy 0, 60, .inl gh)) := k20 _ _ a40 
              refine z_iald jr C hz a41 (by rw [hvr]; exact lN_i jr) (by omega) (by omega) dX8_hashOf_81 ?_
              refine lv_goto (tgt := 90) hx hb dX8_hashOf_82 (by decide) ?_
              refine lv_iadd hx hb dX8_hashOf_90 ?_
              refine lv_istore_n (lv' := [(2, .int ((31 * hv) + (gh jr))), (4, .long (gc (16 * nn + i))), (0, .ref o), (1, .int (nI nn)), (3, .int (nI i))]) hx hb dX8_hashOf_91 rfl hl (by decide) rfl (fun ls hl => ?_)
              refine lv_iinc (v := nI (i + 1)) (lv' := [(3, .int (nI (i + 1))), (2, .int ((31 * hv) + (gh jr))), (4, .long (gc (16 * nn + i))), (0, .ref o), (1, .int (nI nn))]) hx hb dX8_hashOf_92 hl (k := 4) rfl (nI_1 i) (by decide) rfl (fun ls hl => ?_)
              refine lv_goto (tgt := 31) hx hb dX8_hashOf_95 (by decide) ?_
              have a42 : f18 wki = some (.inl (cy 0, 60, .inl gk)) := k20 _ _ a17 
              have a43 : f13 wmy = some (.inl (cy 0, 60, .inl gm)) := k15 _ _ a7 
              have a44 : f18 wmy = some (.inl (cy 0, 60, .inl gm)) := k20 _ _ a43 
              have a45 : f13 wce = some (.inl (cy 1, 960, .inr (.inl gc))) := k15 _ _ a8 
              have a46 : f18 wce = some (.inl (cy 1, 960, .inr (.inl gc))) := k20 _ _ a45 
              exact ih ((31 * hv) + (gh jr)) (i + 1) _ _ _ _ (by omega) (by omega) (zHF_p0 (gp := fun k => gc (16 * nn + k)) (i := i) hk4 hhv (hN_t (by omega) hjr hvr)) a39 a42 a44 a46 a41 (by
                    intro b e hb 
                    have hb0 : fL3 b = some e := k4 b e hb 
                    have hb1 : f13 b = some e := k15 b e hb0 
                    have hb2 : f18 b = some e := k20 b e hb1 
                    exact hb2) hz hS (lv_sub hl [3, 4, 1, 0] rfl)
            · have hvm : gc (16 * nn + i) = (-1) := (lg_cmp_eq _ _).mp c38
              refine lv_iconst (v := 0) hx hb dX8_hashOf_70 (by decide) ?_
              refine lv_goto (tgt := 90) hx hb dX8_hashOf_71 (by decide) ?_
              refine lv_iadd hx hb dX8_hashOf_90 ?_
              refine lv_istore_n (lv' := [(2, .int ((31 * hv) + 0)), (4, .long (gc (16 * nn + i))), (0, .ref o), (1, .int (nI nn)), (3, .int (nI i))]) hx hb dX8_hashOf_91 rfl hl (by decide) rfl (fun ls hl => ?_)
              refine lv_iinc (v := nI (i + 1)) (lv' := [(3, .int (nI (i + 1))), (2, .int ((31 * hv) + 0)), (4, .long (gc (16 * nn + i))), (0, .ref o), (1, .int (nI nn))]) hx hb dX8_hashOf_92 hl (k := 4) rfl (nI_1 i) (by decide) rfl (fun ls hl => ?_)
              refine lv_goto (tgt := 31) hx hb dX8_hashOf_95 (by decide) ?_
              have a47 : f18 o = some (.inr (8, [.int u1, .int u2, .int u3, .ref wev, .int (nI nl), .ref wnb, .int (nI nn), .ref wki, .ref wmy, .ref wce, .ref wiw, .ref wli, .ref wha, .ref wwt, .int (nI nf), .ref wfy, .ref wfk, .int (nI nc), .ref wem, .ref wna, .ref wpl, .ref whs, .long lk, .int (nI ks), .ref wk1, .ref wk2, .ref wk3])) := k20 _ _ a16 
              have a48 : f18 wki = some (.inl (cy 0, 60, .inl gk)) := k20 _ _ a17 
              have a49 : f13 wmy = some (.inl (cy 0, 60, .inl gm)) := k15 _ _ a7 
              have a50 : f18 wmy = some (.inl (cy 0, 60, .inl gm)) := k20 _ _ a49 
              have a51 : f13 wce = some (.inl (cy 1, 960, .inr (.inl gc))) := k15 _ _ a8 
              have a52 : f18 wce = some (.inl (cy 1, 960, .inr (.inl gc))) := k20 _ _ a51 
              have a53 : f13 wha = some (.inl (cy 0, 60, .inl gh)) := k15 _ _ a9 
              have a54 : f18 wha = some (.inl (cy 0, 60, .inl gh)) := k20 _ _ a53 
              exact ih ((31 * hv) + 0) (i + 1) _ _ _ _ (by omega) (by omega) (zHF_p0 (gp := fun k => gc (16 * nn + k)) (i := i) hk4 hhv (hN_m (by omega) hvm)) a47 a48 a50 a52 a54 (by
                    intro b e hb 
                    have hb0 : fL3 b = some e := k4 b e hb 
                    have hb1 : f13 b = some e := k15 b e hb0 
                    have hb2 : f18 b = some e := k20 b e hb1 
                    exact hb2) hz hS (lv_sub hl [3, 4, 1, 0] rfl)
    exact lp2 (t - 0 + 1) (gk nn) 0 _ _ _ _ (Nat.lt_succ_self _) (by omega) rfl p0 p1 p2 p3 p4 (fun b e hb => hb) hz hS (lv_sub hl [2, 3, 1, 0] rfl)
  · refine lv_bipush (v := 31) hx hb dX8_hashOf_18 (by decide) ?_
    refine lv_iload_n hx hb dX8_hashOf_20 rfl (lv_at hl 0 rfl) ?_
    refine lv_imul hx hb dX8_hashOf_21 ?_
    refine lv_iload_n hx hb dX8_hashOf_22 rfl (lv_at hl 2 rfl) ?_
    refine lv_i2l (v := (nI nn).toInt64) hx hb dX8_hashOf_23 rfl ?_
    refine z_callSi (As := [.long ((nI nn).toInt64)]) C hz hS hA hl (k_X8_folded l D cy f ((nI nn).toInt64)  ) zyX8_folded mMX8_100 rfl rfl (Nat.le_of_ble_eq_true rfl) ⟨Nat.le_of_ble_eq_true rfl, Nat.le_of_ble_eq_true rfl⟩ ⟨Nat.le_of_ble_eq_true rfl, Nat.le_of_ble_eq_true rfl⟩ dX8_hashOf_24 (fun r f55 H locs h56 hz hS => ?_)
    obtain ⟨rfl, k57⟩ := h56
    refine lv_iadd hx hb dX8_hashOf_27 ?_
    exact z_iret C hr rfl hz hS ⟨(by rw [zHash, if_pos c1, zFO_n nn hn59]), (by
          intro b e hb 
          have hb0 : f55 b = some e := k57 b e hb 
          exact hb0)⟩ (Nat.le_of_ble_eq_true rfl) (Nat.le_of_ble_eq_true rfl) dX8_hashOf_28
abbrev rmX8_leastLike : Room := { frames := 1, cells := 0, slots := 0, locals := 22 }
set_option maxHeartbeats 4000000 in
set_option maxRecDepth 100000 in
theorem k_X8_leastLike (l : Launch) (D : va_G) (cy : Nat → ClassId) (f : zM) (o : Nat) (wev : Nat) (wnb : Nat) (wki : Nat) (wmy : Nat) (wce : Nat) (wiw : Nat) (wli : Nat) (wha : Nat) (wwt : Nat) (wfy : Nat) (wfk : Nat) (wem : Nat) (wna : Nat) (wpl : Nat) (whs : Nat) (wk1 : Nat) (wk2 : Nat) (wk3 : Nat) (u1 : Int32) (u2 : Int32) (u3 : Int32) (nl : Nat) (nn : Nat) (nf : Nat) (nc : Nat) (lk : Int64) (ks : Nat) (gk : Nat → Int32) (gm : Nat → Int32) (gc : Nat → Int64) (gl : Nat → Int32) (ln : Nat → Nat) (t : Nat) (p0 : f o = some (.inr (8, [.int u1, .int u2, .int u3, .ref wev, .int (nI nl), .ref wnb, .int (nI nn), .ref wki, .ref wmy, .ref wce, .ref wiw, .ref wli, .ref wha, .ref wwt, .int (nI nf), .ref wfy, .ref wfk, .int (nI nc), .ref wem, .ref wna, .ref wpl, .ref whs, .long lk, .int (nI ks), .ref wk1, .ref wk2, .ref wk3]))) (p1 : f wki = some (.inl (cy 0, 60, .inl gk))) (p2 : f wmy = some (.inl (cy 0, 60, .inl gm))) (p3 : f wce = some (.inl (cy 1, 960, .inr (.inl gc)))) (p4 : f wli = some (.inl (cy 0, 60, .inl gl)))  (hn59 : nn < 60) (hMP : zMP nn gk gm gc ln) (hmt : gm nn = nI t) (ht : t ≤ 15) (hrf : gk nn = 4 → ∀ k, k < t → gc (16 * nn + k) = (-1) ∨ ∃ j9, j9 < nn ∧ gc (16 * nn + k) = lN j9) : zCi l D cy yX8_leastLike cX8_leastLike 5 (Option.some Jvm.ClassFile.FieldType.int) rmX8_leastLike [.ref o, .int (nI nn)] f (fun (r : Int32) (f1 : zM) => ∃ (jl : Nat), r = (nI jl) ∧ (jl ≤ nn) ∧ (∀ (b : Nat) (e : va_E), f b = some e → f1 b = some e)) := by
  intro sz
  refine z_body (by decide +kernel) (Nat.le_of_ble_eq_true rfl) ?_
  intro p e s m below meth c ls C hr hin hsz hz hl
  subst hsz
  have hx := C.1
  have hb := C.2.1
  have hA : ∀ q, s.heap.size ≤ q → zA f s.heap.size q := fun q h => Or.inr h
  have hS : va_S (zA f s.heap.size) s.heap s.heap [] := va_S.rf
  have hl : lv_has ls 5 [(0, .ref o), (1, .int (nI nn))] := hl
  refine lv_iconst (v := 0) hx hb dX8_leastLike_0 (by decide) ?_
  refine lv_istore_n (lv' := [(2, .int 0), (0, .ref o), (1, .int (nI nn))]) hx hb dX8_leastLike_1 rfl hl (by decide) rfl (fun ls hl => ?_)
  have lp1 : ∀ (n : Nat) (oo : Nat) (fL2 : zM) (H : Heap) (locs : List Loc) (ls : Array Slot), (nn - oo) < n → (oo ≤ nn) → fL2 o = some (.inr (8, [.int u1, .int u2, .int u3, .ref wev, .int (nI nl), .ref wnb, .int (nI nn), .ref wki, .ref wmy, .ref wce, .ref wiw, .ref wli, .ref wha, .ref wwt, .int (nI nf), .ref wfy, .ref wfk, .int (nI nc), .ref wem, .ref wna, .ref wpl, .ref whs, .long lk, .int (nI ks), .ref wk1, .ref wk2, .ref wk3])) → fL2 wki = some (.inl (cy 0, 60, .inl gk)) → fL2 wmy = some (.inl (cy 0, 60, .inl gm)) → fL2 wce = some (.inl (cy 1, 960, .inr (.inl gc))) → fL2 wli = some (.inl (cy 0, 60, .inl gl)) → (∀ (b : Nat) (e : va_E), f b = some e → fL2 b = some e) → zH D (zA f s.heap.size) fL2 H → va_S (zA f s.heap.size) s.heap H locs → lv_has ls 5 [(0, .ref o), (1, .int (nI nn)), (2, .int (nI oo))] → W p l e rmX8_leastLike s m ([.ref o, .int (nI nn)] : List Value).toArray below meth c H locs 0 0 (MQ below (va_Qi (fun (r : Int32) (f1 : zM) => ∃ (jl : Nat), r = (nI jl) ∧ (jl ≤ nn) ∧ (∀ (b : Nat) (e : va_E), f b = some e → f1 b = some e)) (zB D f s.heap.size) (zA f s.heap.size)) ([.ref o, .int (nI nn)] : List Value).toArray s rmX8_leastLike.cells rmX8_leastLike.slots (zA f s.heap.size)) (F0 m 2 ls []) := by
    intro n
    induction n with
    | zero => intro oo fL2 H locs ls hmz; exact absurd hmz (Nat.not_lt_zero _)
    | succ n_3 ih_3 =>
      intro oo fL2 H locs ls hmz_3 hio a5 a6 a7 a8 a9 k4 hz hS hl
      refine lv_iload_n hx hb dX8_leastLike_2 rfl (lv_at hl 2 rfl) ?_
      refine lv_iload_n hx hb dX8_leastLike_3 rfl (lv_at hl 1 rfl) ?_
      refine lv_icmp_ge (tgt := 155) hx hb dX8_leastLike_4 (by decide) (fun c10 => ?_) (fun c10 => ?_)
      · replace c10 : (nn ≤ oo) := (nI_leI (a := nn) (b := oo) (by omega) (by omega)).mp c10
        refine lv_iload_n hx hb dX8_leastLike_155 rfl (lv_at hl 1 rfl) ?_
        exact z_iret C hr rfl hz hS ⟨nn, rfl, (by omega), (by
              intro b e hb 
              have hb0 : fL2 b = some e := k4 b e hb 
              exact hb0)⟩ (Nat.le_of_ble_eq_true rfl) (Nat.le_of_ble_eq_true rfl) dX8_leastLike_156
      · replace c10 : ¬ (nn ≤ oo) := fun h => c10 ((nI_leI (a := nn) (b := oo) (by omega) (by omega)).mpr h)
        refine lv_aload_n hx hb dX8_leastLike_7 rfl (lv_at hl 0 rfl) ?_
        refine z_get (v := .ref wki) C hz a5 zl8 mFX8_20 (by decide) rfl dX8_leastLike_8 ?_
        refine lv_iload_n hx hb dX8_leastLike_11 rfl (lv_at hl 2 rfl) ?_
        refine z_iald oo C hz a6 rfl (by omega) (by omega) dX8_leastLike_12 ?_
        refine lv_aload_n hx hb dX8_leastLike_13 rfl (lv_at hl 0 rfl) ?_
        refine z_get (v := .ref wki) C hz a5 zl8 mFX8_20 (by decide) rfl dX8_leastLike_14 ?_
        refine lv_iload_n hx hb dX8_leastLike_17 rfl (lv_at hl 1 rfl) ?_
        refine z_iald nn C hz a6 rfl (by omega) (by omega) dX8_leastLike_18 ?_
        refine lv_icmp_ne (tgt := 52) hx hb dX8_leastLike_19 (by decide) (fun c11 => ?_) (fun c11 => ?_)
        · refine lv_iconst (v := 0) hx hb dX8_leastLike_52 (by decide) ?_
          refine lv_istore_n (lv' := [(3, .int 0), (0, .ref o), (1, .int (nI nn)), (2, .int (nI oo))]) hx hb dX8_leastLike_53 rfl hl (by decide) rfl (fun ls hl => ?_)
          refine lv_iconst (v := 0) hx hb dX8_leastLike_54 (by decide) ?_
          refine lv_istore (lv' := [(4, .int 0), (3, .int 0), (0, .ref o), (1, .int (nI nn)), (2, .int (nI oo))]) hx hb dX8_leastLike_55 hl (by decide) rfl (fun ls hl => ?_)
          have lp12 : ∀ (n : Nat) (kx : Nat) (isv : Int32) (fL13 : zM) (H : Heap) (locs : List Loc) (ls : Array Slot), (t - kx) < n → (kx ≤ t) → (¬ isv = 0 → ln oo = t) → (¬ isv = 0 → gk oo = gk nn) → fL13 o = some (.inr (8, [.int u1, .int u2, .int u3, .ref wev, .int (nI nl), .ref wnb, .int (nI nn), .ref wki, .ref wmy, .ref wce, .ref wiw, .ref wli, .ref wha, .ref wwt, .int (nI nf), .ref wfy, .ref wfk, .int (nI nc), .ref wem, .ref wna, .ref wpl, .ref whs, .long lk, .int (nI ks), .ref wk1, .ref wk2, .ref wk3])) → fL13 wki = some (.inl (cy 0, 60, .inl gk)) → fL13 wmy = some (.inl (cy 0, 60, .inl gm)) → fL13 wce = some (.inl (cy 1, 960, .inr (.inl gc))) → fL13 wli = some (.inl (cy 0, 60, .inl gl)) → (∀ (b : Nat) (e : va_E), fL2 b = some e → fL13 b = some e) → zH D (zA f s.heap.size) fL13 H → va_S (zA f s.heap.size) s.heap H locs → lv_has ls 5 [(0, .ref o), (1, .int (nI nn)), (2, .int (nI oo)), (3, .int isv), (4, .int (nI kx))] → W p l e rmX8_leastLike s m ([.ref o, .int (nI nn)] : List Value).toArray below meth c H locs 0 0 (MQ below (va_Qi (fun (r : Int32) (f1 : zM) => ∃ (jl : Nat), r = (nI jl) ∧ (jl ≤ nn) ∧ (∀ (b : Nat) (e : va_E), f b = some e → f1 b = some e)) (zB D f s.heap.size) (zA f s.heap.size)) ([.ref o, .int (nI nn)] : List Value).toArray s rmX8_leastLike.cells rmX8_leastLike.slots (zA f s.heap.size)) (F0 m 57 ls []) := by
            intro n
            induction n with
            | zero => intro kx isv fL13 H locs ls hmz; exact absurd hmz (Nat.not_lt_zero _)
            | succ n_14 ih_14 =>
              intro kx isv fL13 H locs ls hmz_14 hik hlo hke a16 a17 a18 a19 a20 k15 hz hS hl
              refine lv_iload_n hx hb dX8_leastLike_57 rfl (lv_at hl 3 rfl) ?_
              refine lv_if_eq (tgt := 143) hx hb dX8_leastLike_58 (by decide) (fun c21 => ?_) (fun c21 => ?_)
              · refine lv_iload_n hx hb dX8_leastLike_143 rfl (lv_at hl 3 rfl) ?_
                refine lv_if_eq (tgt := 149) hx hb dX8_leastLike_144 (by decide) (fun c22 => ?_) (fun c22 => ?_)
                · refine lv_iinc (v := nI (oo + 1)) (lv' := [(2, .int (nI (oo + 1))), (0, .ref o), (1, .int (nI nn)), (3, .int isv), (4, .int (nI kx))]) hx hb dX8_leastLike_149 hl (k := 2) rfl (nI_1 oo) (by decide) rfl (fun ls hl => ?_)
                  refine lv_goto (tgt := 2) hx hb dX8_leastLike_152 (by decide) ?_
                  exact ih_3 (oo + 1) _ _ _ _ (by omega) (by omega) a16 a17 a18 a19 a20 (by
                        intro b e hb 
                        have hb0 : fL2 b = some e := k4 b e hb 
                        have hb1 : fL13 b = some e := k15 b e hb0 
                        exact hb1) hz hS (lv_sub hl [1, 2, 0] rfl)
                · refine lv_iload_n hx hb dX8_leastLike_147 rfl (lv_at hl 2 rfl) ?_
                  exact z_iret C hr rfl hz hS ⟨oo, rfl, (by omega), (by
                        intro b e hb 
                        have hb0 : fL2 b = some e := k4 b e hb 
                        have hb1 : fL13 b = some e := k15 b e hb0 
                        exact hb1)⟩ (Nat.le_of_ble_eq_true rfl) (Nat.le_of_ble_eq_true rfl) dX8_leastLike_148
              · refine lv_iload hx hb dX8_leastLike_61 (lv_at hl 4 rfl) ?_
                refine lv_aload_n hx hb dX8_leastLike_63 rfl (lv_at hl 0 rfl) ?_
                refine z_get (v := .ref wmy) C hz a16 zl8 mFX8_23 (by decide) rfl dX8_leastLike_64 ?_
                refine lv_iload_n hx hb dX8_leastLike_67 rfl (lv_at hl 1 rfl) ?_
                refine z_iald nn C hz a18 rfl (by omega) (by omega) dX8_leastLike_68 ?_
                refine lv_topi (fun y23 e24 => ?_)
                obtain rfl : y23 = nI t := e24.trans hmt
                refine lv_icmp_ge (tgt := 143) hx hb dX8_leastLike_69 (by decide) (fun c25 => ?_) (fun c25 => ?_)
                · replace c25 : (t ≤ kx) := (nI_leI (a := t) (b := kx) (by omega) (by omega)).mp c25
                  refine lv_iload_n hx hb dX8_leastLike_143 rfl (lv_at hl 3 rfl) ?_
                  refine lv_if_eq (tgt := 149) hx hb dX8_leastLike_144 (by decide) (fun c26 => ?_) (fun c26 => ?_)
                  · refine lv_iinc (v := nI (oo + 1)) (lv' := [(2, .int (nI (oo + 1))), (0, .ref o), (1, .int (nI nn)), (3, .int isv), (4, .int (nI kx))]) hx hb dX8_leastLike_149 hl (k := 2) rfl (nI_1 oo) (by decide) rfl (fun ls hl => ?_)
                    refine lv_goto (tgt := 2) hx hb dX8_leastLike_152 (by decide) ?_
                    exact ih_3 (oo + 1) _ _ _ _ (by omega) (by omega) a16 a17 a18 a19 a20 (by
                          intro b e hb 
                          have hb0 : fL2 b = some e := k4 b e hb 
                          have hb1 : fL13 b = some e := k15 b e hb0 
                          exact hb1) hz hS (lv_sub hl [1, 2, 0] rfl)
                  · refine lv_iload_n hx hb dX8_leastLike_147 rfl (lv_at hl 2 rfl) ?_
                    exact z_iret C hr rfl hz hS ⟨oo, rfl, (by omega), (by
                          intro b e hb 
                          have hb0 : fL2 b = some e := k4 b e hb 
                          have hb1 : fL13 b = some e := k15 b e hb0 
                          exact hb1)⟩ (Nat.le_of_ble_eq_true rfl) (Nat.le_of_ble_eq_true rfl) dX8_leastLike_148
                · replace c25 : ¬ (t ≤ kx) := fun h => c25 ((nI_leI (a := t) (b := kx) (by omega) (by omega)).mpr h)
                  refine lv_aload_n hx hb dX8_leastLike_72 rfl (lv_at hl 0 rfl) ?_
                  refine lv_iload_n hx hb dX8_leastLike_73 rfl (lv_at hl 1 rfl) ?_
                  refine z_callVi (As := [.int (nI nn)]) C hz hS hA hl (k_X8_isFigurePart l D cy fL13 o wev wnb wki wmy wce wiw wli wha wwt wfy wfk wem wna wpl whs wk1 wk2 wk3 u1 u2 u3 nl nn nf nc lk ks gk nn a16 a17 (by omega)) zyX8_isFigurePart mMX8_86 a16 zl8 rfl rfl (Nat.le_of_ble_eq_true rfl) ⟨Nat.le_of_ble_eq_true rfl, Nat.le_of_ble_eq_true rfl⟩ ⟨Nat.le_of_ble_eq_true rfl, Nat.le_of_ble_eq_true rfl⟩ dX8_leastLike_74 (fun r f27 H locs h28 hz hS => ?_)
                  obtain ⟨rfl, k29⟩ := h28
                  refine lv_if_eq (tgt := 113) hx hb dX8_leastLike_77 (by decide) (fun c30 => ?_) (fun c30 => ?_)
                  · refine lv_aload_n hx hb dX8_leastLike_113 rfl (lv_at hl 0 rfl) ?_
                    refine lv_iload_n hx hb dX8_leastLike_114 rfl (lv_at hl 2 rfl) ?_
                    refine lv_iload hx hb dX8_leastLike_115 (lv_at hl 4 rfl) ?_
                    have a31 : f27 o = some (.inr (8, [.int u1, .int u2, .int u3, .ref wev, .int (nI nl), .ref wnb, .int (nI nn), .ref wki, .ref wmy, .ref wce, .ref wiw, .ref wli, .ref wha, .ref wwt, .int (nI nf), .ref wfy, .ref wfk, .int (nI nc), .ref wem, .ref wna, .ref wpl, .ref whs, .long lk, .int (nI ks), .ref wk1, .ref wk2, .ref wk3])) := k29 _ _ a16 
                    have a32 : f27 wce = some (.inl (cy 1, 960, .inr (.inl gc))) := k29 _ _ a19 
                    refine z_callVl (As := [.int (nI oo), .int (nI kx)]) C hz hS hA hl (k_X8_cellOf l D cy f27 o wev wnb wki wmy wce wiw wli wha wwt wfy wfk wem wna wpl whs wk1 wk2 wk3 u1 u2 u3 nl nn nf nc lk ks gc oo kx a31 a32 (by omega)) zyX8_cellOf mMX8_90 a31 zl8 rfl rfl (Nat.le_of_ble_eq_true rfl) ⟨Nat.le_of_ble_eq_true rfl, Nat.le_of_ble_eq_true rfl⟩ ⟨Nat.le_of_ble_eq_true rfl, Nat.le_of_ble_eq_true rfl⟩ dX8_leastLike_117 (fun r f33 H locs h34 hz hS => ?_)
                    obtain ⟨rfl, k35⟩ := h34
                    refine lv_aload_n hx hb dX8_leastLike_120 rfl (lv_at hl 0 rfl) ?_
                    refine lv_iload_n hx hb dX8_leastLike_121 rfl (lv_at hl 1 rfl) ?_
                    refine lv_iload hx hb dX8_leastLike_122 (lv_at hl 4 rfl) ?_
                    have a36 : f33 o = some (.inr (8, [.int u1, .int u2, .int u3, .ref wev, .int (nI nl), .ref wnb, .int (nI nn), .ref wki, .ref wmy, .ref wce, .ref wiw, .ref wli, .ref wha, .ref wwt, .int (nI nf), .ref wfy, .ref wfk, .int (nI nc), .ref wem, .ref wna, .ref wpl, .ref whs, .long lk, .int (nI ks), .ref wk1, .ref wk2, .ref wk3])) := k35 _ _ a31 
                    have a37 : f33 wce = some (.inl (cy 1, 960, .inr (.inl gc))) := k35 _ _ a32 
                    refine z_callVl (As := [.int (nI nn), .int (nI kx)]) C hz hS hA hl (k_X8_cellOf l D cy f33 o wev wnb wki wmy wce wiw wli wha wwt wfy wfk wem wna wpl whs wk1 wk2 wk3 u1 u2 u3 nl nn nf nc lk ks gc nn kx a36 a37 (by omega)) zyX8_cellOf mMX8_90 a36 zl8 rfl rfl (Nat.le_of_ble_eq_true rfl) ⟨Nat.le_of_ble_eq_true rfl, Nat.le_of_ble_eq_true rfl⟩ ⟨Nat.le_of_ble_eq_true rfl, Nat.le_of_ble_eq_true rfl⟩ dX8_leastLike_124 (fun r f38 H locs h39 hz hS => ?_)
                    obtain ⟨rfl, k40⟩ := h39
                    refine W.lcmp hx hb dX8_leastLike_127 ?_
                    refine lv_if_ne (tgt := 135) hx hb dX8_leastLike_128 (by decide) (fun c41 => ?_) (fun c41 => ?_)
                    · refine lv_iconst (v := 0) hx hb dX8_leastLike_135 (by decide) ?_
                      refine lv_istore_n (lv' := [(3, .int 0), (0, .ref o), (1, .int (nI nn)), (2, .int (nI oo)), (4, .int (nI kx))]) hx hb dX8_leastLike_136 rfl hl (by decide) rfl (fun ls hl => ?_)
                      refine lv_iinc (v := nI (kx + 1)) (lv' := [(4, .int (nI (kx + 1))), (3, .int 0), (0, .ref o), (1, .int (nI nn)), (2, .int (nI oo))]) hx hb dX8_leastLike_137 hl (k := 4) rfl (nI_1 kx) (by decide) rfl (fun ls hl => ?_)
                      refine lv_goto (tgt := 57) hx hb dX8_leastLike_140 (by decide) ?_
                      have a42 : f38 o = some (.inr (8, [.int u1, .int u2, .int u3, .ref wev, .int (nI nl), .ref wnb, .int (nI nn), .ref wki, .ref wmy, .ref wce, .ref wiw, .ref wli, .ref wha, .ref wwt, .int (nI nf), .ref wfy, .ref wfk, .int (nI nc), .ref wem, .ref wna, .ref wpl, .ref whs, .long lk, .int (nI ks), .ref wk1, .ref wk2, .ref wk3])) := k40 _ _ a36 
                      have a43 : f27 wki = some (.inl (cy 0, 60, .inl gk)) := k29 _ _ a17 
                      have a44 : f33 wki = some (.inl (cy 0, 60, .inl gk)) := k35 _ _ a43 
                      have a45 : f38 wki = some (.inl (cy 0, 60, .inl gk)) := k40 _ _ a44 
                      have a46 : f27 wmy = some (.inl (cy 0, 60, .inl gm)) := k29 _ _ a18 
                      have a47 : f33 wmy = some (.inl (cy 0, 60, .inl gm)) := k35 _ _ a46 
                      have a48 : f38 wmy = some (.inl (cy 0, 60, .inl gm)) := k40 _ _ a47 
                      have a49 : f38 wce = some (.inl (cy 1, 960, .inr (.inl gc))) := k40 _ _ a37 
                      have a50 : f27 wli = some (.inl (cy 0, 60, .inl gl)) := k29 _ _ a20 
                      have a51 : f33 wli = some (.inl (cy 0, 60, .inl gl)) := k35 _ _ a50 
                      have a52 : f38 wli = some (.inl (cy 0, 60, .inl gl)) := k40 _ _ a51 
                      exact ih_14 (kx + 1) 0 _ _ _ _ (by omega) (by omega) (fun _ => hlo (by assumption)) (fun _ => hke (by assumption)) a42 a45 a48 a49 a52 (by
                            intro b e hb 
                            have hb1 : fL13 b = some e := k15 b e hb 
                            have hb2 : f27 b = some e := k29 b e hb1 
                            have hb3 : f33 b = some e := k35 b e hb2 
                            have hb4 : f38 b = some e := k40 b e hb3 
                            exact hb4) hz hS (lv_sub hl [2, 3, 4, 1, 0] rfl)
                    · refine lv_iconst (v := 1) hx hb dX8_leastLike_131 (by decide) ?_
                      refine lv_goto (tgt := 136) hx hb dX8_leastLike_132 (by decide) ?_
                      refine lv_istore_n (lv' := [(3, .int 1), (0, .ref o), (1, .int (nI nn)), (2, .int (nI oo)), (4, .int (nI kx))]) hx hb dX8_leastLike_136 rfl hl (by decide) rfl (fun ls hl => ?_)
                      refine lv_iinc (v := nI (kx + 1)) (lv' := [(4, .int (nI (kx + 1))), (3, .int 1), (0, .ref o), (1, .int (nI nn)), (2, .int (nI oo))]) hx hb dX8_leastLike_137 hl (k := 4) rfl (nI_1 kx) (by decide) rfl (fun ls hl => ?_)
                      refine lv_goto (tgt := 57) hx hb dX8_leastLike_140 (by decide) ?_
                      have a53 : f38 o = some (.inr (8, [.int u1, .int u2, .int u3, .ref wev, .int (nI nl), .ref wnb, .int (nI nn), .ref wki, .ref wmy, .ref wce, .ref wiw, .ref wli, .ref wha, .ref wwt, .int (nI nf), .ref wfy, .ref wfk, .int (nI nc), .ref wem, .ref wna, .ref wpl, .ref whs, .long lk, .int (nI ks), .ref wk1, .ref wk2, .ref wk3])) := k40 _ _ a36 
                      have a54 : f27 wki = some (.inl (cy 0, 60, .inl gk)) := k29 _ _ a17 
                      have a55 : f33 wki = some (.inl (cy 0, 60, .inl gk)) := k35 _ _ a54 
                      have a56 : f38 wki = some (.inl (cy 0, 60, .inl gk)) := k40 _ _ a55 
                      have a57 : f27 wmy = some (.inl (cy 0, 60, .inl gm)) := k29 _ _ a18 
                      have a58 : f33 wmy = some (.inl (cy 0, 60, .inl gm)) := k35 _ _ a57 
                      have a59 : f38 wmy = some (.inl (cy 0, 60, .inl gm)) := k40 _ _ a58 
                      have a60 : f38 wce = some (.inl (cy 1, 960, .inr (.inl gc))) := k40 _ _ a37 
                      have a61 : f27 wli = some (.inl (cy 0, 60, .inl gl)) := k29 _ _ a20 
                      have a62 : f33 wli = some (.inl (cy 0, 60, .inl gl)) := k35 _ _ a61 
                      have a63 : f38 wli = some (.inl (cy 0, 60, .inl gl)) := k40 _ _ a62 
                      exact ih_14 (kx + 1) 1 _ _ _ _ (by omega) (by omega) (fun _ => hlo (by assumption)) (fun _ => hke (by assumption)) a53 a56 a59 a60 a63 (by
                            intro b e hb 
                            have hb1 : fL13 b = some e := k15 b e hb 
                            have hb2 : f27 b = some e := k29 b e hb1 
                            have hb3 : f33 b = some e := k35 b e hb2 
                            have hb4 : f38 b = some e := k40 b e hb3 
                            exact hb4) hz hS (lv_sub hl [2, 3, 4, 1, 0] rfl)
                  · have hkn : gk nn = 4 := by
                      by_cases h9 : gk nn = 4
                      · exact h9
                      · exact absurd (by rw [if_neg h9]) c30
                    have hlt : ln oo = t := hlo (by assumption)
                    have hko : gk oo = 4 := (hke (by assumption)).trans hkn
                    refine lv_aload_n hx hb dX8_leastLike_80 rfl (lv_at hl 0 rfl) ?_
                    refine lv_aload_n hx hb dX8_leastLike_81 rfl (lv_at hl 0 rfl) ?_
                    refine lv_iload_n hx hb dX8_leastLike_82 rfl (lv_at hl 2 rfl) ?_
                    refine lv_iload hx hb dX8_leastLike_83 (lv_at hl 4 rfl) ?_
                    have a64 : f27 o = some (.inr (8, [.int u1, .int u2, .int u3, .ref wev, .int (nI nl), .ref wnb, .int (nI nn), .ref wki, .ref wmy, .ref wce, .ref wiw, .ref wli, .ref wha, .ref wwt, .int (nI nf), .ref wfy, .ref wfk, .int (nI nc), .ref wem, .ref wna, .ref wpl, .ref whs, .long lk, .int (nI ks), .ref wk1, .ref wk2, .ref wk3])) := k29 _ _ a16 
                    have a65 : f27 wce = some (.inl (cy 1, 960, .inr (.inl gc))) := k29 _ _ a19 
                    refine z_callVl (As := [.int (nI oo), .int (nI kx)]) C hz hS hA hl (k_X8_cellOf l D cy f27 o wev wnb wki wmy wce wiw wli wha wwt wfy wfk wem wna wpl whs wk1 wk2 wk3 u1 u2 u3 nl nn nf nc lk ks gc oo kx a64 a65 (by omega)) zyX8_cellOf mMX8_90 a64 zl8 rfl rfl (Nat.le_of_ble_eq_true rfl) ⟨Nat.le_of_ble_eq_true rfl, Nat.le_of_ble_eq_true rfl⟩ ⟨Nat.le_of_ble_eq_true rfl, Nat.le_of_ble_eq_true rfl⟩ dX8_leastLike_85 (fun r f66 H locs h67 hz hS => ?_)
                    obtain ⟨rfl, k68⟩ := h67
                    have a69 : f66 o = some (.inr (8, [.int u1, .int u2, .int u3, .ref wev, .int (nI nl), .ref wnb, .int (nI nn), .ref wki, .ref wmy, .ref wce, .ref wiw, .ref wli, .ref wha, .ref wwt, .int (nI nf), .ref wfy, .ref wfk, .int (nI nc), .ref wem, .ref wna, .ref wpl, .ref whs, .long lk, .int (nI ks), .ref wk1, .ref wk2, .ref wk3])) := k68 _ _ a64 
                    have a70 : f27 wli = some (.inl (cy 0, 60, .inl gl)) := k29 _ _ a20 
                    have a71 : f66 wli = some (.inl (cy 0, 60, .inl gl)) := k68 _ _ a70 
                    refine z_callVi (As := [.long (gc (16 * oo + kx))]) C hz hS hA hl (k_X8_likeOf l D cy f66 o wev wnb wki wmy wce wiw wli wha wwt wfy wfk wem wna wpl whs wk1 wk2 wk3 u1 u2 u3 nl nn nf nc lk ks gl (gc (16 * oo + kx)) a69 a71 (z_ref hMP (by omega) (by omega) hko (by omega))) zyX8_likeOf mMX8_94 a69 zl8 rfl rfl (Nat.le_of_ble_eq_true rfl) ⟨Nat.le_of_ble_eq_true rfl, Nat.le_of_ble_eq_true rfl⟩ ⟨Nat.le_of_ble_eq_true rfl, Nat.le_of_ble_eq_true rfl⟩ dX8_leastLike_88 (fun r74 f72 H locs h73 hz hS => ?_)
                    have k75 := h73
                    refine lv_aload_n hx hb dX8_leastLike_91 rfl (lv_at hl 0 rfl) ?_
                    refine lv_aload_n hx hb dX8_leastLike_92 rfl (lv_at hl 0 rfl) ?_
                    refine lv_iload_n hx hb dX8_leastLike_93 rfl (lv_at hl 1 rfl) ?_
                    refine lv_iload hx hb dX8_leastLike_94 (lv_at hl 4 rfl) ?_
                    have a76 : f72 o = some (.inr (8, [.int u1, .int u2, .int u3, .ref wev, .int (nI nl), .ref wnb, .int (nI nn), .ref wki, .ref wmy, .ref wce, .ref wiw, .ref wli, .ref wha, .ref wwt, .int (nI nf), .ref wfy, .ref wfk, .int (nI nc), .ref wem, .ref wna, .ref wpl, .ref whs, .long lk, .int (nI ks), .ref wk1, .ref wk2, .ref wk3])) := k75 _ _ a69 
                    have a77 : f66 wce = some (.inl (cy 1, 960, .inr (.inl gc))) := k68 _ _ a65 
                    have a78 : f72 wce = some (.inl (cy 1, 960, .inr (.inl gc))) := k75 _ _ a77 
                    refine z_callVl (As := [.int (nI nn), .int (nI kx)]) C hz hS hA hl (k_X8_cellOf l D cy f72 o wev wnb wki wmy wce wiw wli wha wwt wfy wfk wem wna wpl whs wk1 wk2 wk3 u1 u2 u3 nl nn nf nc lk ks gc nn kx a76 a78 (by omega)) zyX8_cellOf mMX8_90 a76 zl8 rfl rfl (Nat.le_of_ble_eq_true rfl) ⟨Nat.le_of_ble_eq_true rfl, Nat.le_of_ble_eq_true rfl⟩ ⟨Nat.le_of_ble_eq_true rfl, Nat.le_of_ble_eq_true rfl⟩ dX8_leastLike_96 (fun r f79 H locs h80 hz hS => ?_)
                    obtain ⟨rfl, k81⟩ := h80
                    have a82 : f79 o = some (.inr (8, [.int u1, .int u2, .int u3, .ref wev, .int (nI nl), .ref wnb, .int (nI nn), .ref wki, .ref wmy, .ref wce, .ref wiw, .ref wli, .ref wha, .ref wwt, .int (nI nf), .ref wfy, .ref wfk, .int (nI nc), .ref wem, .ref wna, .ref wpl, .ref whs, .long lk, .int (nI ks), .ref wk1, .ref wk2, .ref wk3])) := k81 _ _ a76 
                    have a83 : f72 wli = some (.inl (cy 0, 60, .inl gl)) := k75 _ _ a71 
                    have a84 : f79 wli = some (.inl (cy 0, 60, .inl gl)) := k81 _ _ a83 
                    refine z_callVi (As := [.long (gc (16 * nn + kx))]) C hz hS hA hl (k_X8_likeOf l D cy f79 o wev wnb wki wmy wce wiw wli wha wwt wfy wfk wem wna wpl whs wk1 wk2 wk3 u1 u2 u3 nl nn nf nc lk ks gl (gc (16 * nn + kx)) a82 a84 (z_r60 (by omega) (hrf hkn kx (by omega)))) zyX8_likeOf mMX8_94 a82 zl8 rfl rfl (Nat.le_of_ble_eq_true rfl) ⟨Nat.le_of_ble_eq_true rfl, Nat.le_of_ble_eq_true rfl⟩ ⟨Nat.le_of_ble_eq_true rfl, Nat.le_of_ble_eq_true rfl⟩ dX8_leastLike_99 (fun r87 f85 H locs h86 hz hS => ?_)
                    have k88 := h86
                    refine lv_icmp_ne (tgt := 109) hx hb dX8_leastLike_102 (by decide) (fun c89 => ?_) (fun c89 => ?_)
                    · refine lv_iconst (v := 0) hx hb dX8_leastLike_109 (by decide) ?_
                      refine lv_goto (tgt := 136) hx hb dX8_leastLike_110 (by decide) ?_
                      refine lv_istore_n (lv' := [(3, .int 0), (0, .ref o), (1, .int (nI nn)), (2, .int (nI oo)), (4, .int (nI kx))]) hx hb dX8_leastLike_136 rfl hl (by decide) rfl (fun ls hl => ?_)
                      refine lv_iinc (v := nI (kx + 1)) (lv' := [(4, .int (nI (kx + 1))), (3, .int 0), (0, .ref o), (1, .int (nI nn)), (2, .int (nI oo))]) hx hb dX8_leastLike_137 hl (k := 4) rfl (nI_1 kx) (by decide) rfl (fun ls hl => ?_)
                      refine lv_goto (tgt := 57) hx hb dX8_leastLike_140 (by decide) ?_
                      have a90 : f85 o = some (.inr (8, [.int u1, .int u2, .int u3, .ref wev, .int (nI nl), .ref wnb, .int (nI nn), .ref wki, .ref wmy, .ref wce, .ref wiw, .ref wli, .ref wha, .ref wwt, .int (nI nf), .ref wfy, .ref wfk, .int (nI nc), .ref wem, .ref wna, .ref wpl, .ref whs, .long lk, .int (nI ks), .ref wk1, .ref wk2, .ref wk3])) := k88 _ _ a82 
                      have a91 : f27 wki = some (.inl (cy 0, 60, .inl gk)) := k29 _ _ a17 
                      have a92 : f66 wki = some (.inl (cy 0, 60, .inl gk)) := k68 _ _ a91 
                      have a93 : f72 wki = some (.inl (cy 0, 60, .inl gk)) := k75 _ _ a92 
                      have a94 : f79 wki = some (.inl (cy 0, 60, .inl gk)) := k81 _ _ a93 
                      have a95 : f85 wki = some (.inl (cy 0, 60, .inl gk)) := k88 _ _ a94 
                      have a96 : f27 wmy = some (.inl (cy 0, 60, .inl gm)) := k29 _ _ a18 
                      have a97 : f66 wmy = some (.inl (cy 0, 60, .inl gm)) := k68 _ _ a96 
                      have a98 : f72 wmy = some (.inl (cy 0, 60, .inl gm)) := k75 _ _ a97 
                      have a99 : f79 wmy = some (.inl (cy 0, 60, .inl gm)) := k81 _ _ a98 
                      have a100 : f85 wmy = some (.inl (cy 0, 60, .inl gm)) := k88 _ _ a99 
                      have a101 : f79 wce = some (.inl (cy 1, 960, .inr (.inl gc))) := k81 _ _ a78 
                      have a102 : f85 wce = some (.inl (cy 1, 960, .inr (.inl gc))) := k88 _ _ a101 
                      have a103 : f85 wli = some (.inl (cy 0, 60, .inl gl)) := k88 _ _ a84 
                      exact ih_14 (kx + 1) 0 _ _ _ _ (by omega) (by omega) (fun _ => hlo (by assumption)) (fun _ => hke (by assumption)) a90 a95 a100 a102 a103 (by
                            intro b e hb 
                            have hb1 : fL13 b = some e := k15 b e hb 
                            have hb2 : f27 b = some e := k29 b e hb1 
                            have hb3 : f66 b = some e := k68 b e hb2 
                            have hb4 : f72 b = some e := k75 b e hb3 
                            have hb5 : f79 b = some e := k81 b e hb4 
                            have hb6 : f85 b = some e := k88 b e hb5 
                            exact hb6) hz hS (lv_sub hl [2, 3, 4, 1, 0] rfl)
                    · refine lv_iconst (v := 1) hx hb dX8_leastLike_105 (by decide) ?_
                      refine lv_goto (tgt := 136) hx hb dX8_leastLike_106 (by decide) ?_
                      refine lv_istore_n (lv' := [(3, .int 1), (0, .ref o), (1, .int (nI nn)), (2, .int (nI oo)), (4, .int (nI kx))]) hx hb dX8_leastLike_136 rfl hl (by decide) rfl (fun ls hl => ?_)
                      refine lv_iinc (v := nI (kx + 1)) (lv' := [(4, .int (nI (kx + 1))), (3, .int 1), (0, .ref o), (1, .int (nI nn)), (2, .int (nI oo))]) hx hb dX8_leastLike_137 hl (k := 4) rfl (nI_1 kx) (by decide) rfl (fun ls hl => ?_)
                      refine lv_goto (tgt := 57) hx hb dX8_leastLike_140 (by decide) ?_
                      have a104 : f85 o = some (.inr (8, [.int u1, .int u2, .int u3, .ref wev, .int (nI nl), .ref wnb, .int (nI nn), .ref wki, .ref wmy, .ref wce, .ref wiw, .ref wli, .ref wha, .ref wwt, .int (nI nf), .ref wfy, .ref wfk, .int (nI nc), .ref wem, .ref wna, .ref wpl, .ref whs, .long lk, .int (nI ks), .ref wk1, .ref wk2, .ref wk3])) := k88 _ _ a82 
                      have a105 : f27 wki = some (.inl (cy 0, 60, .inl gk)) := k29 _ _ a17 
                      have a106 : f66 wki = some (.inl (cy 0, 60, .inl gk)) := k68 _ _ a105 
                      have a107 : f72 wki = some (.inl (cy 0, 60, .inl gk)) := k75 _ _ a106 
                      have a108 : f79 wki = some (.inl (cy 0, 60, .inl gk)) := k81 _ _ a107 
                      have a109 : f85 wki = some (.inl (cy 0, 60, .inl gk)) := k88 _ _ a108 
                      have a110 : f27 wmy = some (.inl (cy 0, 60, .inl gm)) := k29 _ _ a18 
                      have a111 : f66 wmy = some (.inl (cy 0, 60, .inl gm)) := k68 _ _ a110 
                      have a112 : f72 wmy = some (.inl (cy 0, 60, .inl gm)) := k75 _ _ a111 
                      have a113 : f79 wmy = some (.inl (cy 0, 60, .inl gm)) := k81 _ _ a112 
                      have a114 : f85 wmy = some (.inl (cy 0, 60, .inl gm)) := k88 _ _ a113 
                      have a115 : f79 wce = some (.inl (cy 1, 960, .inr (.inl gc))) := k81 _ _ a78 
                      have a116 : f85 wce = some (.inl (cy 1, 960, .inr (.inl gc))) := k88 _ _ a115 
                      have a117 : f85 wli = some (.inl (cy 0, 60, .inl gl)) := k88 _ _ a84 
                      exact ih_14 (kx + 1) 1 _ _ _ _ (by omega) (by omega) (fun _ => hlo (by assumption)) (fun _ => hke (by assumption)) a104 a109 a114 a116 a117 (by
                            intro b e hb 
                            have hb1 : fL13 b = some e := k15 b e hb 
                            have hb2 : f27 b = some e := k29 b e hb1 
                            have hb3 : f66 b = some e := k68 b e hb2 
                            have hb4 : f72 b = some e := k75 b e hb3 
                            have hb5 : f79 b = some e := k81 b e hb4 
                            have hb6 : f85 b = some e := k88 b e hb5 
                            exact hb6) hz hS (lv_sub hl [2, 3, 4, 1, 0] rfl)
          exact lp12 (t - 0 + 1) 0 0 _ _ _ _ (Nat.lt_succ_self _) (by omega) (fun h9 => absurd rfl h9) (fun h9 => absurd rfl h9) a5 a6 a7 a8 a9 (fun b e hb => hb) hz hS (lv_sub hl [2, 3, 4, 1, 0] rfl)
        · refine lv_aload_n hx hb dX8_leastLike_22 rfl (lv_at hl 0 rfl) ?_
          refine z_get (v := .ref wki) C hz a5 zl8 mFX8_20 (by decide) rfl dX8_leastLike_23 ?_
          refine lv_iload_n hx hb dX8_leastLike_26 rfl (lv_at hl 1 rfl) ?_
          refine z_iald nn C hz a6 rfl (by omega) (by omega) dX8_leastLike_27 ?_
          refine lv_bipush (v := 6) hx hb dX8_leastLike_28 (by decide) ?_
          refine lv_icmp_eq (tgt := 52) hx hb dX8_leastLike_30 (by decide) (fun c118 => ?_) (fun c118 => ?_)
          · refine lv_iconst (v := 0) hx hb dX8_leastLike_52 (by decide) ?_
            refine lv_istore_n (lv' := [(3, .int 0), (0, .ref o), (1, .int (nI nn)), (2, .int (nI oo))]) hx hb dX8_leastLike_53 rfl hl (by decide) rfl (fun ls hl => ?_)
            refine lv_iconst (v := 0) hx hb dX8_leastLike_54 (by decide) ?_
            refine lv_istore (lv' := [(4, .int 0), (3, .int 0), (0, .ref o), (1, .int (nI nn)), (2, .int (nI oo))]) hx hb dX8_leastLike_55 hl (by decide) rfl (fun ls hl => ?_)
            have lp119 : ∀ (n : Nat) (kx : Nat) (isv : Int32) (fL120 : zM) (H : Heap) (locs : List Loc) (ls : Array Slot), (t - kx) < n → (kx ≤ t) → (¬ isv = 0 → ln oo = t) → (¬ isv = 0 → gk oo = gk nn) → fL120 o = some (.inr (8, [.int u1, .int u2, .int u3, .ref wev, .int (nI nl), .ref wnb, .int (nI nn), .ref wki, .ref wmy, .ref wce, .ref wiw, .ref wli, .ref wha, .ref wwt, .int (nI nf), .ref wfy, .ref wfk, .int (nI nc), .ref wem, .ref wna, .ref wpl, .ref whs, .long lk, .int (nI ks), .ref wk1, .ref wk2, .ref wk3])) → fL120 wki = some (.inl (cy 0, 60, .inl gk)) → fL120 wmy = some (.inl (cy 0, 60, .inl gm)) → fL120 wce = some (.inl (cy 1, 960, .inr (.inl gc))) → fL120 wli = some (.inl (cy 0, 60, .inl gl)) → (∀ (b : Nat) (e : va_E), fL2 b = some e → fL120 b = some e) → zH D (zA f s.heap.size) fL120 H → va_S (zA f s.heap.size) s.heap H locs → lv_has ls 5 [(0, .ref o), (1, .int (nI nn)), (2, .int (nI oo)), (3, .int isv), (4, .int (nI kx))] → W p l e rmX8_leastLike s m ([.ref o, .int (nI nn)] : List Value).toArray below meth c H locs 0 0 (MQ below (va_Qi (fun (r : Int32) (f1 : zM) => ∃ (jl : Nat), r = (nI jl) ∧ (jl ≤ nn) ∧ (∀ (b : Nat) (e : va_E), f b = some e → f1 b = some e)) (zB D f s.heap.size) (zA f s.heap.size)) ([.ref o, .int (nI nn)] : List Value).toArray s rmX8_leastLike.cells rmX8_leastLike.slots (zA f s.heap.size)) (F0 m 57 ls []) := by
              intro n
              induction n with
              | zero => intro kx isv fL120 H locs ls hmz; exact absurd hmz (Nat.not_lt_zero _)
              | succ n_121 ih_121 =>
                intro kx isv fL120 H locs ls hmz_121 hik hlo hke a123 a124 a125 a126 a127 k122 hz hS hl
                refine lv_iload_n hx hb dX8_leastLike_57 rfl (lv_at hl 3 rfl) ?_
                refine lv_if_eq (tgt := 143) hx hb dX8_leastLike_58 (by decide) (fun c128 => ?_) (fun c128 => ?_)
                · refine lv_iload_n hx hb dX8_leastLike_143 rfl (lv_at hl 3 rfl) ?_
                  refine lv_if_eq (tgt := 149) hx hb dX8_leastLike_144 (by decide) (fun c129 => ?_) (fun c129 => ?_)
                  · refine lv_iinc (v := nI (oo + 1)) (lv' := [(2, .int (nI (oo + 1))), (0, .ref o), (1, .int (nI nn)), (3, .int isv), (4, .int (nI kx))]) hx hb dX8_leastLike_149 hl (k := 2) rfl (nI_1 oo) (by decide) rfl (fun ls hl => ?_)
                    refine lv_goto (tgt := 2) hx hb dX8_leastLike_152 (by decide) ?_
                    exact ih_3 (oo + 1) _ _ _ _ (by omega) (by omega) a123 a124 a125 a126 a127 (by
                          intro b e hb 
                          have hb0 : fL2 b = some e := k4 b e hb 
                          have hb1 : fL120 b = some e := k122 b e hb0 
                          exact hb1) hz hS (lv_sub hl [1, 2, 0] rfl)
                  · refine lv_iload_n hx hb dX8_leastLike_147 rfl (lv_at hl 2 rfl) ?_
                    exact z_iret C hr rfl hz hS ⟨oo, rfl, (by omega), (by
                          intro b e hb 
                          have hb0 : fL2 b = some e := k4 b e hb 
                          have hb1 : fL120 b = some e := k122 b e hb0 
                          exact hb1)⟩ (Nat.le_of_ble_eq_true rfl) (Nat.le_of_ble_eq_true rfl) dX8_leastLike_148
                · refine lv_iload hx hb dX8_leastLike_61 (lv_at hl 4 rfl) ?_
                  refine lv_aload_n hx hb dX8_leastLike_63 rfl (lv_at hl 0 rfl) ?_
                  refine z_get (v := .ref wmy) C hz a123 zl8 mFX8_23 (by decide) rfl dX8_leastLike_64 ?_
                  refine lv_iload_n hx hb dX8_leastLike_67 rfl (lv_at hl 1 rfl) ?_
                  refine z_iald nn C hz a125 rfl (by omega) (by omega) dX8_leastLike_68 ?_
                  refine lv_topi (fun y130 e131 => ?_)
                  obtain rfl : y130 = nI t := e131.trans hmt
                  refine lv_icmp_ge (tgt := 143) hx hb dX8_leastLike_69 (by decide) (fun c132 => ?_) (fun c132 => ?_)
                  · replace c132 : (t ≤ kx) := (nI_leI (a := t) (b := kx) (by omega) (by omega)).mp c132
                    refine lv_iload_n hx hb dX8_leastLike_143 rfl (lv_at hl 3 rfl) ?_
                    refine lv_if_eq (tgt := 149) hx hb dX8_leastLike_144 (by decide) (fun c133 => ?_) (fun c133 => ?_)
                    · refine lv_iinc (v := nI (oo + 1)) (lv' := [(2, .int (nI (oo + 1))), (0, .ref o), (1, .int (nI nn)), (3, .int isv), (4, .int (nI kx))]) hx hb dX8_leastLike_149 hl (k := 2) rfl (nI_1 oo) (by decide) rfl (fun ls hl => ?_)
                      refine lv_goto (tgt := 2) hx hb dX8_leastLike_152 (by decide) ?_
                      exact ih_3 (oo + 1) _ _ _ _ (by omega) (by omega) a123 a124 a125 a126 a127 (by
                            intro b e hb 
                            have hb0 : fL2 b = some e := k4 b e hb 
                            have hb1 : fL120 b = some e := k122 b e hb0 
                            exact hb1) hz hS (lv_sub hl [1, 2, 0] rfl)
                    · refine lv_iload_n hx hb dX8_leastLike_147 rfl (lv_at hl 2 rfl) ?_
                      exact z_iret C hr rfl hz hS ⟨oo, rfl, (by omega), (by
                            intro b e hb 
                            have hb0 : fL2 b = some e := k4 b e hb 
                            have hb1 : fL120 b = some e := k122 b e hb0 
                            exact hb1)⟩ (Nat.le_of_ble_eq_true rfl) (Nat.le_of_ble_eq_true rfl) dX8_leastLike_148
                  · replace c132 : ¬ (t ≤ kx) := fun h => c132 ((nI_leI (a := t) (b := kx) (by omega) (by omega)).mpr h)
                    refine lv_aload_n hx hb dX8_leastLike_72 rfl (lv_at hl 0 rfl) ?_
                    refine lv_iload_n hx hb dX8_leastLike_73 rfl (lv_at hl 1 rfl) ?_
                    refine z_callVi (As := [.int (nI nn)]) C hz hS hA hl (k_X8_isFigurePart l D cy fL120 o wev wnb wki wmy wce wiw wli wha wwt wfy wfk wem wna wpl whs wk1 wk2 wk3 u1 u2 u3 nl nn nf nc lk ks gk nn a123 a124 (by omega)) zyX8_isFigurePart mMX8_86 a123 zl8 rfl rfl (Nat.le_of_ble_eq_true rfl) ⟨Nat.le_of_ble_eq_true rfl, Nat.le_of_ble_eq_true rfl⟩ ⟨Nat.le_of_ble_eq_true rfl, Nat.le_of_ble_eq_true rfl⟩ dX8_leastLike_74 (fun r f134 H locs h135 hz hS => ?_)
                    obtain ⟨rfl, k136⟩ := h135
                    refine lv_if_eq (tgt := 113) hx hb dX8_leastLike_77 (by decide) (fun c137 => ?_) (fun c137 => ?_)
                    · refine lv_aload_n hx hb dX8_leastLike_113 rfl (lv_at hl 0 rfl) ?_
                      refine lv_iload_n hx hb dX8_leastLike_114 rfl (lv_at hl 2 rfl) ?_
                      refine lv_iload hx hb dX8_leastLike_115 (lv_at hl 4 rfl) ?_
                      have a138 : f134 o = some (.inr (8, [.int u1, .int u2, .int u3, .ref wev, .int (nI nl), .ref wnb, .int (nI nn), .ref wki, .ref wmy, .ref wce, .ref wiw, .ref wli, .ref wha, .ref wwt, .int (nI nf), .ref wfy, .ref wfk, .int (nI nc), .ref wem, .ref wna, .ref wpl, .ref whs, .long lk, .int (nI ks), .ref wk1, .ref wk2, .ref wk3])) := k136 _ _ a123 
                      have a139 : f134 wce = some (.inl (cy 1, 960, .inr (.inl gc))) := k136 _ _ a126 
                      refine z_callVl (As := [.int (nI oo), .int (nI kx)]) C hz hS hA hl (k_X8_cellOf l D cy f134 o wev wnb wki wmy wce wiw wli wha wwt wfy wfk wem wna wpl whs wk1 wk2 wk3 u1 u2 u3 nl nn nf nc lk ks gc oo kx a138 a139 (by omega)) zyX8_cellOf mMX8_90 a138 zl8 rfl rfl (Nat.le_of_ble_eq_true rfl) ⟨Nat.le_of_ble_eq_true rfl, Nat.le_of_ble_eq_true rfl⟩ ⟨Nat.le_of_ble_eq_true rfl, Nat.le_of_ble_eq_true rfl⟩ dX8_leastLike_117 (fun r f140 H locs h141 hz hS => ?_)
                      obtain ⟨rfl, k142⟩ := h141
                      refine lv_aload_n hx hb dX8_leastLike_120 rfl (lv_at hl 0 rfl) ?_
                      refine lv_iload_n hx hb dX8_leastLike_121 rfl (lv_at hl 1 rfl) ?_
                      refine lv_iload hx hb dX8_leastLike_122 (lv_at hl 4 rfl) ?_
                      have a143 : f140 o = some (.inr (8, [.int u1, .int u2, .int u3, .ref wev, .int (nI nl), .ref wnb, .int (nI nn), .ref wki, .ref wmy, .ref wce, .ref wiw, .ref wli, .ref wha, .ref wwt, .int (nI nf), .ref wfy, .ref wfk, .int (nI nc), .ref wem, .ref wna, .ref wpl, .ref whs, .long lk, .int (nI ks), .ref wk1, .ref wk2, .ref wk3])) := k142 _ _ a138 
                      have a144 : f140 wce = some (.inl (cy 1, 960, .inr (.inl gc))) := k142 _ _ a139 
                      refine z_callVl (As := [.int (nI nn), .int (nI kx)]) C hz hS hA hl (k_X8_cellOf l D cy f140 o wev wnb wki wmy wce wiw wli wha wwt wfy wfk wem wna wpl whs wk1 wk2 wk3 u1 u2 u3 nl nn nf nc lk ks gc nn kx a143 a144 (by omega)) zyX8_cellOf mMX8_90 a143 zl8 rfl rfl (Nat.le_of_ble_eq_true rfl) ⟨Nat.le_of_ble_eq_true rfl, Nat.le_of_ble_eq_true rfl⟩ ⟨Nat.le_of_ble_eq_true rfl, Nat.le_of_ble_eq_true rfl⟩ dX8_leastLike_124 (fun r f145 H locs h146 hz hS => ?_)
                      obtain ⟨rfl, k147⟩ := h146
                      refine W.lcmp hx hb dX8_leastLike_127 ?_
                      refine lv_if_ne (tgt := 135) hx hb dX8_leastLike_128 (by decide) (fun c148 => ?_) (fun c148 => ?_)
                      · refine lv_iconst (v := 0) hx hb dX8_leastLike_135 (by decide) ?_
                        refine lv_istore_n (lv' := [(3, .int 0), (0, .ref o), (1, .int (nI nn)), (2, .int (nI oo)), (4, .int (nI kx))]) hx hb dX8_leastLike_136 rfl hl (by decide) rfl (fun ls hl => ?_)
                        refine lv_iinc (v := nI (kx + 1)) (lv' := [(4, .int (nI (kx + 1))), (3, .int 0), (0, .ref o), (1, .int (nI nn)), (2, .int (nI oo))]) hx hb dX8_leastLike_137 hl (k := 4) rfl (nI_1 kx) (by decide) rfl (fun ls hl => ?_)
                        refine lv_goto (tgt := 57) hx hb dX8_leastLike_140 (by decide) ?_
                        have a149 : f145 o = some (.inr (8, [.int u1, .int u2, .int u3, .ref wev, .int (nI nl), .ref wnb, .int (nI nn), .ref wki, .ref wmy, .ref wce, .ref wiw, .ref wli, .ref wha, .ref wwt, .int (nI nf), .ref wfy, .ref wfk, .int (nI nc), .ref wem, .ref wna, .ref wpl, .ref whs, .long lk, .int (nI ks), .ref wk1, .ref wk2, .ref wk3])) := k147 _ _ a143 
                        have a150 : f134 wki = some (.inl (cy 0, 60, .inl gk)) := k136 _ _ a124 
                        have a151 : f140 wki = some (.inl (cy 0, 60, .inl gk)) := k142 _ _ a150 
                        have a152 : f145 wki = some (.inl (cy 0, 60, .inl gk)) := k147 _ _ a151 
                        have a153 : f134 wmy = some (.inl (cy 0, 60, .inl gm)) := k136 _ _ a125 
                        have a154 : f140 wmy = some (.inl (cy 0, 60, .inl gm)) := k142 _ _ a153 
                        have a155 : f145 wmy = some (.inl (cy 0, 60, .inl gm)) := k147 _ _ a154 
                        have a156 : f145 wce = some (.inl (cy 1, 960, .inr (.inl gc))) := k147 _ _ a144 
                        have a157 : f134 wli = some (.inl (cy 0, 60, .inl gl)) := k136 _ _ a127 
                        have a158 : f140 wli = some (.inl (cy 0, 60, .inl gl)) := k142 _ _ a157 
                        have a159 : f145 wli = some (.inl (cy 0, 60, .inl gl)) := k147 _ _ a158 
                        exact ih_121 (kx + 1) 0 _ _ _ _ (by omega) (by omega) (fun _ => hlo (by assumption)) (fun _ => hke (by assumption)) a149 a152 a155 a156 a159 (by
                              intro b e hb 
                              have hb1 : fL120 b = some e := k122 b e hb 
                              have hb2 : f134 b = some e := k136 b e hb1 
                              have hb3 : f140 b = some e := k142 b e hb2 
                              have hb4 : f145 b = some e := k147 b e hb3 
                              exact hb4) hz hS (lv_sub hl [2, 3, 4, 1, 0] rfl)
                      · refine lv_iconst (v := 1) hx hb dX8_leastLike_131 (by decide) ?_
                        refine lv_goto (tgt := 136) hx hb dX8_leastLike_132 (by decide) ?_
                        refine lv_istore_n (lv' := [(3, .int 1), (0, .ref o), (1, .int (nI nn)), (2, .int (nI oo)), (4, .int (nI kx))]) hx hb dX8_leastLike_136 rfl hl (by decide) rfl (fun ls hl => ?_)
                        refine lv_iinc (v := nI (kx + 1)) (lv' := [(4, .int (nI (kx + 1))), (3, .int 1), (0, .ref o), (1, .int (nI nn)), (2, .int (nI oo))]) hx hb dX8_leastLike_137 hl (k := 4) rfl (nI_1 kx) (by decide) rfl (fun ls hl => ?_)
                        refine lv_goto (tgt := 57) hx hb dX8_leastLike_140 (by decide) ?_
                        have a160 : f145 o = some (.inr (8, [.int u1, .int u2, .int u3, .ref wev, .int (nI nl), .ref wnb, .int (nI nn), .ref wki, .ref wmy, .ref wce, .ref wiw, .ref wli, .ref wha, .ref wwt, .int (nI nf), .ref wfy, .ref wfk, .int (nI nc), .ref wem, .ref wna, .ref wpl, .ref whs, .long lk, .int (nI ks), .ref wk1, .ref wk2, .ref wk3])) := k147 _ _ a143 
                        have a161 : f134 wki = some (.inl (cy 0, 60, .inl gk)) := k136 _ _ a124 
                        have a162 : f140 wki = some (.inl (cy 0, 60, .inl gk)) := k142 _ _ a161 
                        have a163 : f145 wki = some (.inl (cy 0, 60, .inl gk)) := k147 _ _ a162 
                        have a164 : f134 wmy = some (.inl (cy 0, 60, .inl gm)) := k136 _ _ a125 
                        have a165 : f140 wmy = some (.inl (cy 0, 60, .inl gm)) := k142 _ _ a164 
                        have a166 : f145 wmy = some (.inl (cy 0, 60, .inl gm)) := k147 _ _ a165 
                        have a167 : f145 wce = some (.inl (cy 1, 960, .inr (.inl gc))) := k147 _ _ a144 
                        have a168 : f134 wli = some (.inl (cy 0, 60, .inl gl)) := k136 _ _ a127 
                        have a169 : f140 wli = some (.inl (cy 0, 60, .inl gl)) := k142 _ _ a168 
                        have a170 : f145 wli = some (.inl (cy 0, 60, .inl gl)) := k147 _ _ a169 
                        exact ih_121 (kx + 1) 1 _ _ _ _ (by omega) (by omega) (fun _ => hlo (by assumption)) (fun _ => hke (by assumption)) a160 a163 a166 a167 a170 (by
                              intro b e hb 
                              have hb1 : fL120 b = some e := k122 b e hb 
                              have hb2 : f134 b = some e := k136 b e hb1 
                              have hb3 : f140 b = some e := k142 b e hb2 
                              have hb4 : f145 b = some e := k147 b e hb3 
                              exact hb4) hz hS (lv_sub hl [2, 3, 4, 1, 0] rfl)
                    · have hkn : gk nn = 4 := by
                        by_cases h9 : gk nn = 4
                        · exact h9
                        · exact absurd (by rw [if_neg h9]) c137
                      have hlt : ln oo = t := hlo (by assumption)
                      have hko : gk oo = 4 := (hke (by assumption)).trans hkn
                      refine lv_aload_n hx hb dX8_leastLike_80 rfl (lv_at hl 0 rfl) ?_
                      refine lv_aload_n hx hb dX8_leastLike_81 rfl (lv_at hl 0 rfl) ?_
                      refine lv_iload_n hx hb dX8_leastLike_82 rfl (lv_at hl 2 rfl) ?_
                      refine lv_iload hx hb dX8_leastLike_83 (lv_at hl 4 rfl) ?_
                      have a171 : f134 o = some (.inr (8, [.int u1, .int u2, .int u3, .ref wev, .int (nI nl), .ref wnb, .int (nI nn), .ref wki, .ref wmy, .ref wce, .ref wiw, .ref wli, .ref wha, .ref wwt, .int (nI nf), .ref wfy, .ref wfk, .int (nI nc), .ref wem, .ref wna, .ref wpl, .ref whs, .long lk, .int (nI ks), .ref wk1, .ref wk2, .ref wk3])) := k136 _ _ a123 
                      have a172 : f134 wce = some (.inl (cy 1, 960, .inr (.inl gc))) := k136 _ _ a126 
                      refine z_callVl (As := [.int (nI oo), .int (nI kx)]) C hz hS hA hl (k_X8_cellOf l D cy f134 o wev wnb wki wmy wce wiw wli wha wwt wfy wfk wem wna wpl whs wk1 wk2 wk3 u1 u2 u3 nl nn nf nc lk ks gc oo kx a171 a172 (by omega)) zyX8_cellOf mMX8_90 a171 zl8 rfl rfl (Nat.le_of_ble_eq_true rfl) ⟨Nat.le_of_ble_eq_true rfl, Nat.le_of_ble_eq_true rfl⟩ ⟨Nat.le_of_ble_eq_true rfl, Nat.le_of_ble_eq_true rfl⟩ dX8_leastLike_85 (fun r f173 H locs h174 hz hS => ?_)
                      obtain ⟨rfl, k175⟩ := h174
                      have a176 : f173 o = some (.inr (8, [.int u1, .int u2, .int u3, .ref wev, .int (nI nl), .ref wnb, .int (nI nn), .ref wki, .ref wmy, .ref wce, .ref wiw, .ref wli, .ref wha, .ref wwt, .int (nI nf), .ref wfy, .ref wfk, .int (nI nc), .ref wem, .ref wna, .ref wpl, .ref whs, .long lk, .int (nI ks), .ref wk1, .ref wk2, .ref wk3])) := k175 _ _ a171 
                      have a177 : f134 wli = some (.inl (cy 0, 60, .inl gl)) := k136 _ _ a127 
                      have a178 : f173 wli = some (.inl (cy 0, 60, .inl gl)) := k175 _ _ a177 
                      refine z_callVi (As := [.long (gc (16 * oo + kx))]) C hz hS hA hl (k_X8_likeOf l D cy f173 o wev wnb wki wmy wce wiw wli wha wwt wfy wfk wem wna wpl whs wk1 wk2 wk3 u1 u2 u3 nl nn nf nc lk ks gl (gc (16 * oo + kx)) a176 a178 (z_ref hMP (by omega) (by omega) hko (by omega))) zyX8_likeOf mMX8_94 a176 zl8 rfl rfl (Nat.le_of_ble_eq_true rfl) ⟨Nat.le_of_ble_eq_true rfl, Nat.le_of_ble_eq_true rfl⟩ ⟨Nat.le_of_ble_eq_true rfl, Nat.le_of_ble_eq_true rfl⟩ dX8_leastLike_88 (fun r181 f179 H locs h180 hz hS => ?_)
                      have k182 := h180
                      refine lv_aload_n hx hb dX8_leastLike_91 rfl (lv_at hl 0 rfl) ?_
                      refine lv_aload_n hx hb dX8_leastLike_92 rfl (lv_at hl 0 rfl) ?_
                      refine lv_iload_n hx hb dX8_leastLike_93 rfl (lv_at hl 1 rfl) ?_
                      refine lv_iload hx hb dX8_leastLike_94 (lv_at hl 4 rfl) ?_
                      have a183 : f179 o = some (.inr (8, [.int u1, .int u2, .int u3, .ref wev, .int (nI nl), .ref wnb, .int (nI nn), .ref wki, .ref wmy, .ref wce, .ref wiw, .ref wli, .ref wha, .ref wwt, .int (nI nf), .ref wfy, .ref wfk, .int (nI nc), .ref wem, .ref wna, .ref wpl, .ref whs, .long lk, .int (nI ks), .ref wk1, .ref wk2, .ref wk3])) := k182 _ _ a176 
                      have a184 : f173 wce = some (.inl (cy 1, 960, .inr (.inl gc))) := k175 _ _ a172 
                      have a185 : f179 wce = some (.inl (cy 1, 960, .inr (.inl gc))) := k182 _ _ a184 
                      refine z_callVl (As := [.int (nI nn), .int (nI kx)]) C hz hS hA hl (k_X8_cellOf l D cy f179 o wev wnb wki wmy wce wiw wli wha wwt wfy wfk wem wna wpl whs wk1 wk2 wk3 u1 u2 u3 nl nn nf nc lk ks gc nn kx a183 a185 (by omega)) zyX8_cellOf mMX8_90 a183 zl8 rfl rfl (Nat.le_of_ble_eq_true rfl) ⟨Nat.le_of_ble_eq_true rfl, Nat.le_of_ble_eq_true rfl⟩ ⟨Nat.le_of_ble_eq_true rfl, Nat.le_of_ble_eq_true rfl⟩ dX8_leastLike_96 (fun r f186 H locs h187 hz hS => ?_)
                      obtain ⟨rfl, k188⟩ := h187
                      have a189 : f186 o = some (.inr (8, [.int u1, .int u2, .int u3, .ref wev, .int (nI nl), .ref wnb, .int (nI nn), .ref wki, .ref wmy, .ref wce, .ref wiw, .ref wli, .ref wha, .ref wwt, .int (nI nf), .ref wfy, .ref wfk, .int (nI nc), .ref wem, .ref wna, .ref wpl, .ref whs, .long lk, .int (nI ks), .ref wk1, .ref wk2, .ref wk3])) := k188 _ _ a183 
                      have a190 : f179 wli = some (.inl (cy 0, 60, .inl gl)) := k182 _ _ a178 
                      have a191 : f186 wli = some (.inl (cy 0, 60, .inl gl)) := k188 _ _ a190 
                      refine z_callVi (As := [.long (gc (16 * nn + kx))]) C hz hS hA hl (k_X8_likeOf l D cy f186 o wev wnb wki wmy wce wiw wli wha wwt wfy wfk wem wna wpl whs wk1 wk2 wk3 u1 u2 u3 nl nn nf nc lk ks gl (gc (16 * nn + kx)) a189 a191 (z_r60 (by omega) (hrf hkn kx (by omega)))) zyX8_likeOf mMX8_94 a189 zl8 rfl rfl (Nat.le_of_ble_eq_true rfl) ⟨Nat.le_of_ble_eq_true rfl, Nat.le_of_ble_eq_true rfl⟩ ⟨Nat.le_of_ble_eq_true rfl, Nat.le_of_ble_eq_true rfl⟩ dX8_leastLike_99 (fun r194 f192 H locs h193 hz hS => ?_)
                      have k195 := h193
                      refine lv_icmp_ne (tgt := 109) hx hb dX8_leastLike_102 (by decide) (fun c196 => ?_) (fun c196 => ?_)
                      · refine lv_iconst (v := 0) hx hb dX8_leastLike_109 (by decide) ?_
                        refine lv_goto (tgt := 136) hx hb dX8_leastLike_110 (by decide) ?_
                        refine lv_istore_n (lv' := [(3, .int 0), (0, .ref o), (1, .int (nI nn)), (2, .int (nI oo)), (4, .int (nI kx))]) hx hb dX8_leastLike_136 rfl hl (by decide) rfl (fun ls hl => ?_)
                        refine lv_iinc (v := nI (kx + 1)) (lv' := [(4, .int (nI (kx + 1))), (3, .int 0), (0, .ref o), (1, .int (nI nn)), (2, .int (nI oo))]) hx hb dX8_leastLike_137 hl (k := 4) rfl (nI_1 kx) (by decide) rfl (fun ls hl => ?_)
                        refine lv_goto (tgt := 57) hx hb dX8_leastLike_140 (by decide) ?_
                        have a197 : f192 o = some (.inr (8, [.int u1, .int u2, .int u3, .ref wev, .int (nI nl), .ref wnb, .int (nI nn), .ref wki, .ref wmy, .ref wce, .ref wiw, .ref wli, .ref wha, .ref wwt, .int (nI nf), .ref wfy, .ref wfk, .int (nI nc), .ref wem, .ref wna, .ref wpl, .ref whs, .long lk, .int (nI ks), .ref wk1, .ref wk2, .ref wk3])) := k195 _ _ a189 
                        have a198 : f134 wki = some (.inl (cy 0, 60, .inl gk)) := k136 _ _ a124 
                        have a199 : f173 wki = some (.inl (cy 0, 60, .inl gk)) := k175 _ _ a198 
                        have a200 : f179 wki = some (.inl (cy 0, 60, .inl gk)) := k182 _ _ a199 
                        have a201 : f186 wki = some (.inl (cy 0, 60, .inl gk)) := k188 _ _ a200 
                        have a202 : f192 wki = some (.inl (cy 0, 60, .inl gk)) := k195 _ _ a201 
                        have a203 : f134 wmy = some (.inl (cy 0, 60, .inl gm)) := k136 _ _ a125 
                        have a204 : f173 wmy = some (.inl (cy 0, 60, .inl gm)) := k175 _ _ a203 
                        have a205 : f179 wmy = some (.inl (cy 0, 60, .inl gm)) := k182 _ _ a204 
                        have a206 : f186 wmy = some (.inl (cy 0, 60, .inl gm)) := k188 _ _ a205 
                        have a207 : f192 wmy = some (.inl (cy 0, 60, .inl gm)) := k195 _ _ a206 
                        have a208 : f186 wce = some (.inl (cy 1, 960, .inr (.inl gc))) := k188 _ _ a185 
                        have a209 : f192 wce = some (.inl (cy 1, 960, .inr (.inl gc))) := k195 _ _ a208 
                        have a210 : f192 wli = some (.inl (cy 0, 60, .inl gl)) := k195 _ _ a191 
                        exact ih_121 (kx + 1) 0 _ _ _ _ (by omega) (by omega) (fun _ => hlo (by assumption)) (fun _ => hke (by assumption)) a197 a202 a207 a209 a210 (by
                              intro b e hb 
                              have hb1 : fL120 b = some e := k122 b e hb 
                              have hb2 : f134 b = some e := k136 b e hb1 
                              have hb3 : f173 b = some e := k175 b e hb2 
                              have hb4 : f179 b = some e := k182 b e hb3 
                              have hb5 : f186 b = some e := k188 b e hb4 
                              have hb6 : f192 b = some e := k195 b e hb5 
                              exact hb6) hz hS (lv_sub hl [2, 3, 4, 1, 0] rfl)
                      · refine lv_iconst (v := 1) hx hb dX8_leastLike_105 (by decide) ?_
                        refine lv_goto (tgt := 136) hx hb dX8_leastLike_106 (by decide) ?_
                        refine lv_istore_n (lv' := [(3, .int 1), (0, .ref o), (1, .int (nI nn)), (2, .int (nI oo)), (4, .int (nI kx))]) hx hb dX8_leastLike_136 rfl hl (by decide) rfl (fun ls hl => ?_)
                        refine lv_iinc (v := nI (kx + 1)) (lv' := [(4, .int (nI (kx + 1))), (3, .int 1), (0, .ref o), (1, .int (nI nn)), (2, .int (nI oo))]) hx hb dX8_leastLike_137 hl (k := 4) rfl (nI_1 kx) (by decide) rfl (fun ls hl => ?_)
                        refine lv_goto (tgt := 57) hx hb dX8_leastLike_140 (by decide) ?_
                        have a211 : f192 o = some (.inr (8, [.int u1, .int u2, .int u3, .ref wev, .int (nI nl), .ref wnb, .int (nI nn), .ref wki, .ref wmy, .ref wce, .ref wiw, .ref wli, .ref wha, .ref wwt, .int (nI nf), .ref wfy, .ref wfk, .int (nI nc), .ref wem, .ref wna, .ref wpl, .ref whs, .long lk, .int (nI ks), .ref wk1, .ref wk2, .ref wk3])) := k195 _ _ a189 
                        have a212 : f134 wki = some (.inl (cy 0, 60, .inl gk)) := k136 _ _ a124 
                        have a213 : f173 wki = some (.inl (cy 0, 60, .inl gk)) := k175 _ _ a212 
                        have a214 : f179 wki = some (.inl (cy 0, 60, .inl gk)) := k182 _ _ a213 
                        have a215 : f186 wki = some (.inl (cy 0, 60, .inl gk)) := k188 _ _ a214 
                        have a216 : f192 wki = some (.inl (cy 0, 60, .inl gk)) := k195 _ _ a215 
                        have a217 : f134 wmy = some (.inl (cy 0, 60, .inl gm)) := k136 _ _ a125 
                        have a218 : f173 wmy = some (.inl (cy 0, 60, .inl gm)) := k175 _ _ a217 
                        have a219 : f179 wmy = some (.inl (cy 0, 60, .inl gm)) := k182 _ _ a218 
                        have a220 : f186 wmy = some (.inl (cy 0, 60, .inl gm)) := k188 _ _ a219 
                        have a221 : f192 wmy = some (.inl (cy 0, 60, .inl gm)) := k195 _ _ a220 
                        have a222 : f186 wce = some (.inl (cy 1, 960, .inr (.inl gc))) := k188 _ _ a185 
                        have a223 : f192 wce = some (.inl (cy 1, 960, .inr (.inl gc))) := k195 _ _ a222 
                        have a224 : f192 wli = some (.inl (cy 0, 60, .inl gl)) := k195 _ _ a191 
                        exact ih_121 (kx + 1) 1 _ _ _ _ (by omega) (by omega) (fun _ => hlo (by assumption)) (fun _ => hke (by assumption)) a211 a216 a221 a223 a224 (by
                              intro b e hb 
                              have hb1 : fL120 b = some e := k122 b e hb 
                              have hb2 : f134 b = some e := k136 b e hb1 
                              have hb3 : f173 b = some e := k175 b e hb2 
                              have hb4 : f179 b = some e := k182 b e hb3 
                              have hb5 : f186 b = some e := k188 b e hb4 
                              have hb6 : f192 b = some e := k195 b e hb5 
                              exact hb6) hz hS (lv_sub hl [2, 3, 4, 1, 0] rfl)
            exact lp119 (t - 0 + 1) 0 0 _ _ _ _ (Nat.lt_succ_self _) (by omega) (fun h9 => absurd rfl h9) (fun h9 => absurd rfl h9) a5 a6 a7 a8 a9 (fun b e hb => hb) hz hS (lv_sub hl [2, 3, 4, 1, 0] rfl)
          · refine lv_aload_n hx hb dX8_leastLike_33 rfl (lv_at hl 0 rfl) ?_
            refine z_get (v := .ref wmy) C hz a5 zl8 mFX8_23 (by decide) rfl dX8_leastLike_34 ?_
            refine lv_iload_n hx hb dX8_leastLike_37 rfl (lv_at hl 2 rfl) ?_
            refine z_iald oo C hz a7 rfl (by omega) (by omega) dX8_leastLike_38 ?_
            refine lv_aload_n hx hb dX8_leastLike_39 rfl (lv_at hl 0 rfl) ?_
            refine z_get (v := .ref wmy) C hz a5 zl8 mFX8_23 (by decide) rfl dX8_leastLike_40 ?_
            refine lv_iload_n hx hb dX8_leastLike_43 rfl (lv_at hl 1 rfl) ?_
            refine z_iald nn C hz a7 rfl (by omega) (by omega) dX8_leastLike_44 ?_
            refine lv_topi (fun y225 e226 => ?_)
            obtain rfl : y225 = nI t := e226.trans hmt
            refine lv_icmp_ne (tgt := 52) hx hb dX8_leastLike_45 (by decide) (fun c227 => ?_) (fun c227 => ?_)
            · refine lv_iconst (v := 0) hx hb dX8_leastLike_52 (by decide) ?_
              refine lv_istore_n (lv' := [(3, .int 0), (0, .ref o), (1, .int (nI nn)), (2, .int (nI oo))]) hx hb dX8_leastLike_53 rfl hl (by decide) rfl (fun ls hl => ?_)
              refine lv_iconst (v := 0) hx hb dX8_leastLike_54 (by decide) ?_
              refine lv_istore (lv' := [(4, .int 0), (3, .int 0), (0, .ref o), (1, .int (nI nn)), (2, .int (nI oo))]) hx hb dX8_leastLike_55 hl (by decide) rfl (fun ls hl => ?_)
              have lp228 : ∀ (n : Nat) (kx : Nat) (isv : Int32) (fL229 : zM) (H : Heap) (locs : List Loc) (ls : Array Slot), (t - kx) < n → (kx ≤ t) → (¬ isv = 0 → ln oo = t) → (¬ isv = 0 → gk oo = gk nn) → fL229 o = some (.inr (8, [.int u1, .int u2, .int u3, .ref wev, .int (nI nl), .ref wnb, .int (nI nn), .ref wki, .ref wmy, .ref wce, .ref wiw, .ref wli, .ref wha, .ref wwt, .int (nI nf), .ref wfy, .ref wfk, .int (nI nc), .ref wem, .ref wna, .ref wpl, .ref whs, .long lk, .int (nI ks), .ref wk1, .ref wk2, .ref wk3])) → fL229 wki = some (.inl (cy 0, 60, .inl gk)) → fL229 wmy = some (.inl (cy 0, 60, .inl gm)) → fL229 wce = some (.inl (cy 1, 960, .inr (.inl gc))) → fL229 wli = some (.inl (cy 0, 60, .inl gl)) → (∀ (b : Nat) (e : va_E), fL2 b = some e → fL229 b = some e) → zH D (zA f s.heap.size) fL229 H → va_S (zA f s.heap.size) s.heap H locs → lv_has ls 5 [(0, .ref o), (1, .int (nI nn)), (2, .int (nI oo)), (3, .int isv), (4, .int (nI kx))] → W p l e rmX8_leastLike s m ([.ref o, .int (nI nn)] : List Value).toArray below meth c H locs 0 0 (MQ below (va_Qi (fun (r : Int32) (f1 : zM) => ∃ (jl : Nat), r = (nI jl) ∧ (jl ≤ nn) ∧ (∀ (b : Nat) (e : va_E), f b = some e → f1 b = some e)) (zB D f s.heap.size) (zA f s.heap.size)) ([.ref o, .int (nI nn)] : List Value).toArray s rmX8_leastLike.cells rmX8_leastLike.slots (zA f s.heap.size)) (F0 m 57 ls []) := by
                intro n
                induction n with
                | zero => intro kx isv fL229 H locs ls hmz; exact absurd hmz (Nat.not_lt_zero _)
                | succ n_230 ih_230 =>
                  intro kx isv fL229 H locs ls hmz_230 hik hlo hke a232 a233 a234 a235 a236 k231 hz hS hl
                  refine lv_iload_n hx hb dX8_leastLike_57 rfl (lv_at hl 3 rfl) ?_
                  refine lv_if_eq (tgt := 143) hx hb dX8_leastLike_58 (by decide) (fun c237 => ?_) (fun c237 => ?_)
                  · refine lv_iload_n hx hb dX8_leastLike_143 rfl (lv_at hl 3 rfl) ?_
                    refine lv_if_eq (tgt := 149) hx hb dX8_leastLike_144 (by decide) (fun c238 => ?_) (fun c238 => ?_)
                    · refine lv_iinc (v := nI (oo + 1)) (lv' := [(2, .int (nI (oo + 1))), (0, .ref o), (1, .int (nI nn)), (3, .int isv), (4, .int (nI kx))]) hx hb dX8_leastLike_149 hl (k := 2) rfl (nI_1 oo) (by decide) rfl (fun ls hl => ?_)
                      refine lv_goto (tgt := 2) hx hb dX8_leastLike_152 (by decide) ?_
                      exact ih_3 (oo + 1) _ _ _ _ (by omega) (by omega) a232 a233 a234 a235 a236 (by
                            intro b e hb 
                            have hb0 : fL2 b = some e := k4 b e hb 
                            have hb1 : fL229 b = some e := k231 b e hb0 
                            exact hb1) hz hS (lv_sub hl [1, 2, 0] rfl)
                    · refine lv_iload_n hx hb dX8_leastLike_147 rfl (lv_at hl 2 rfl) ?_
                      exact z_iret C hr rfl hz hS ⟨oo, rfl, (by omega), (by
                            intro b e hb 
                            have hb0 : fL2 b = some e := k4 b e hb 
                            have hb1 : fL229 b = some e := k231 b e hb0 
                            exact hb1)⟩ (Nat.le_of_ble_eq_true rfl) (Nat.le_of_ble_eq_true rfl) dX8_leastLike_148
                  · refine lv_iload hx hb dX8_leastLike_61 (lv_at hl 4 rfl) ?_
                    refine lv_aload_n hx hb dX8_leastLike_63 rfl (lv_at hl 0 rfl) ?_
                    refine z_get (v := .ref wmy) C hz a232 zl8 mFX8_23 (by decide) rfl dX8_leastLike_64 ?_
                    refine lv_iload_n hx hb dX8_leastLike_67 rfl (lv_at hl 1 rfl) ?_
                    refine z_iald nn C hz a234 rfl (by omega) (by omega) dX8_leastLike_68 ?_
                    refine lv_topi (fun y239 e240 => ?_)
                    obtain rfl : y239 = nI t := e240.trans hmt
                    refine lv_icmp_ge (tgt := 143) hx hb dX8_leastLike_69 (by decide) (fun c241 => ?_) (fun c241 => ?_)
                    · replace c241 : (t ≤ kx) := (nI_leI (a := t) (b := kx) (by omega) (by omega)).mp c241
                      refine lv_iload_n hx hb dX8_leastLike_143 rfl (lv_at hl 3 rfl) ?_
                      refine lv_if_eq (tgt := 149) hx hb dX8_leastLike_144 (by decide) (fun c242 => ?_) (fun c242 => ?_)
                      · refine lv_iinc (v := nI (oo + 1)) (lv' := [(2, .int (nI (oo + 1))), (0, .ref o), (1, .int (nI nn)), (3, .int isv), (4, .int (nI kx))]) hx hb dX8_leastLike_149 hl (k := 2) rfl (nI_1 oo) (by decide) rfl (fun ls hl => ?_)
                        refine lv_goto (tgt := 2) hx hb dX8_leastLike_152 (by decide) ?_
                        exact ih_3 (oo + 1) _ _ _ _ (by omega) (by omega) a232 a233 a234 a235 a236 (by
                              intro b e hb 
                              have hb0 : fL2 b = some e := k4 b e hb 
                              have hb1 : fL229 b = some e := k231 b e hb0 
                              exact hb1) hz hS (lv_sub hl [1, 2, 0] rfl)
                      · refine lv_iload_n hx hb dX8_leastLike_147 rfl (lv_at hl 2 rfl) ?_
                        exact z_iret C hr rfl hz hS ⟨oo, rfl, (by omega), (by
                              intro b e hb 
                              have hb0 : fL2 b = some e := k4 b e hb 
                              have hb1 : fL229 b = some e := k231 b e hb0 
                              exact hb1)⟩ (Nat.le_of_ble_eq_true rfl) (Nat.le_of_ble_eq_true rfl) dX8_leastLike_148
                    · replace c241 : ¬ (t ≤ kx) := fun h => c241 ((nI_leI (a := t) (b := kx) (by omega) (by omega)).mpr h)
                      refine lv_aload_n hx hb dX8_leastLike_72 rfl (lv_at hl 0 rfl) ?_
                      refine lv_iload_n hx hb dX8_leastLike_73 rfl (lv_at hl 1 rfl) ?_
                      refine z_callVi (As := [.int (nI nn)]) C hz hS hA hl (k_X8_isFigurePart l D cy fL229 o wev wnb wki wmy wce wiw wli wha wwt wfy wfk wem wna wpl whs wk1 wk2 wk3 u1 u2 u3 nl nn nf nc lk ks gk nn a232 a233 (by omega)) zyX8_isFigurePart mMX8_86 a232 zl8 rfl rfl (Nat.le_of_ble_eq_true rfl) ⟨Nat.le_of_ble_eq_true rfl, Nat.le_of_ble_eq_true rfl⟩ ⟨Nat.le_of_ble_eq_true rfl, Nat.le_of_ble_eq_true rfl⟩ dX8_leastLike_74 (fun r f243 H locs h244 hz hS => ?_)
                      obtain ⟨rfl, k245⟩ := h244
                      refine lv_if_eq (tgt := 113) hx hb dX8_leastLike_77 (by decide) (fun c246 => ?_) (fun c246 => ?_)
                      · refine lv_aload_n hx hb dX8_leastLike_113 rfl (lv_at hl 0 rfl) ?_
                        refine lv_iload_n hx hb dX8_leastLike_114 rfl (lv_at hl 2 rfl) ?_
                        refine lv_iload hx hb dX8_leastLike_115 (lv_at hl 4 rfl) ?_
                        have a247 : f243 o = some (.inr (8, [.int u1, .int u2, .int u3, .ref wev, .int (nI nl), .ref wnb, .int (nI nn), .ref wki, .ref wmy, .ref wce, .ref wiw, .ref wli, .ref wha, .ref wwt, .int (nI nf), .ref wfy, .ref wfk, .int (nI nc), .ref wem, .ref wna, .ref wpl, .ref whs, .long lk, .int (nI ks), .ref wk1, .ref wk2, .ref wk3])) := k245 _ _ a232 
                        have a248 : f243 wce = some (.inl (cy 1, 960, .inr (.inl gc))) := k245 _ _ a235 
                        refine z_callVl (As := [.int (nI oo), .int (nI kx)]) C hz hS hA hl (k_X8_cellOf l D cy f243 o wev wnb wki wmy wce wiw wli wha wwt wfy wfk wem wna wpl whs wk1 wk2 wk3 u1 u2 u3 nl nn nf nc lk ks gc oo kx a247 a248 (by omega)) zyX8_cellOf mMX8_90 a247 zl8 rfl rfl (Nat.le_of_ble_eq_true rfl) ⟨Nat.le_of_ble_eq_true rfl, Nat.le_of_ble_eq_true rfl⟩ ⟨Nat.le_of_ble_eq_true rfl, Nat.le_of_ble_eq_true rfl⟩ dX8_leastLike_117 (fun r f249 H locs h250 hz hS => ?_)
                        obtain ⟨rfl, k251⟩ := h250
                        refine lv_aload_n hx hb dX8_leastLike_120 rfl (lv_at hl 0 rfl) ?_
                        refine lv_iload_n hx hb dX8_leastLike_121 rfl (lv_at hl 1 rfl) ?_
                        refine lv_iload hx hb dX8_leastLike_122 (lv_at hl 4 rfl) ?_
                        have a252 : f249 o = some (.inr (8, [.int u1, .int u2, .int u3, .ref wev, .int (nI nl), .ref wnb, .int (nI nn), .ref wki, .ref wmy, .ref wce, .ref wiw, .ref wli, .ref wha, .ref wwt, .int (nI nf), .ref wfy, .ref wfk, .int (nI nc), .ref wem, .ref wna, .ref wpl, .ref whs, .long lk, .int (nI ks), .ref wk1, .ref wk2, .ref wk3])) := k251 _ _ a247 
                        have a253 : f249 wce = some (.inl (cy 1, 960, .inr (.inl gc))) := k251 _ _ a248 
                        refine z_callVl (As := [.int (nI nn), .int (nI kx)]) C hz hS hA hl (k_X8_cellOf l D cy f249 o wev wnb wki wmy wce wiw wli wha wwt wfy wfk wem wna wpl whs wk1 wk2 wk3 u1 u2 u3 nl nn nf nc lk ks gc nn kx a252 a253 (by omega)) zyX8_cellOf mMX8_90 a252 zl8 rfl rfl (Nat.le_of_ble_eq_true rfl) ⟨Nat.le_of_ble_eq_true rfl, Nat.le_of_ble_eq_true rfl⟩ ⟨Nat.le_of_ble_eq_true rfl, Nat.le_of_ble_eq_true rfl⟩ dX8_leastLike_124 (fun r f254 H locs h255 hz hS => ?_)
                        obtain ⟨rfl, k256⟩ := h255
                        refine W.lcmp hx hb dX8_leastLike_127 ?_
                        refine lv_if_ne (tgt := 135) hx hb dX8_leastLike_128 (by decide) (fun c257 => ?_) (fun c257 => ?_)
                        · refine lv_iconst (v := 0) hx hb dX8_leastLike_135 (by decide) ?_
                          refine lv_istore_n (lv' := [(3, .int 0), (0, .ref o), (1, .int (nI nn)), (2, .int (nI oo)), (4, .int (nI kx))]) hx hb dX8_leastLike_136 rfl hl (by decide) rfl (fun ls hl => ?_)
                          refine lv_iinc (v := nI (kx + 1)) (lv' := [(4, .int (nI (kx + 1))), (3, .int 0), (0, .ref o), (1, .int (nI nn)), (2, .int (nI oo))]) hx hb dX8_leastLike_137 hl (k := 4) rfl (nI_1 kx) (by decide) rfl (fun ls hl => ?_)
                          refine lv_goto (tgt := 57) hx hb dX8_leastLike_140 (by decide) ?_
                          have a258 : f254 o = some (.inr (8, [.int u1, .int u2, .int u3, .ref wev, .int (nI nl), .ref wnb, .int (nI nn), .ref wki, .ref wmy, .ref wce, .ref wiw, .ref wli, .ref wha, .ref wwt, .int (nI nf), .ref wfy, .ref wfk, .int (nI nc), .ref wem, .ref wna, .ref wpl, .ref whs, .long lk, .int (nI ks), .ref wk1, .ref wk2, .ref wk3])) := k256 _ _ a252 
                          have a259 : f243 wki = some (.inl (cy 0, 60, .inl gk)) := k245 _ _ a233 
                          have a260 : f249 wki = some (.inl (cy 0, 60, .inl gk)) := k251 _ _ a259 
                          have a261 : f254 wki = some (.inl (cy 0, 60, .inl gk)) := k256 _ _ a260 
                          have a262 : f243 wmy = some (.inl (cy 0, 60, .inl gm)) := k245 _ _ a234 
                          have a263 : f249 wmy = some (.inl (cy 0, 60, .inl gm)) := k251 _ _ a262 
                          have a264 : f254 wmy = some (.inl (cy 0, 60, .inl gm)) := k256 _ _ a263 
                          have a265 : f254 wce = some (.inl (cy 1, 960, .inr (.inl gc))) := k256 _ _ a253 
                          have a266 : f243 wli = some (.inl (cy 0, 60, .inl gl)) := k245 _ _ a236 
                          have a267 : f249 wli = some (.inl (cy 0, 60, .inl gl)) := k251 _ _ a266 
                          have a268 : f254 wli = some (.inl (cy 0, 60, .inl gl)) := k256 _ _ a267 
                          exact ih_230 (kx + 1) 0 _ _ _ _ (by omega) (by omega) (fun _ => hlo (by assumption)) (fun _ => hke (by assumption)) a258 a261 a264 a265 a268 (by
                                intro b e hb 
                                have hb1 : fL229 b = some e := k231 b e hb 
                                have hb2 : f243 b = some e := k245 b e hb1 
                                have hb3 : f249 b = some e := k251 b e hb2 
                                have hb4 : f254 b = some e := k256 b e hb3 
                                exact hb4) hz hS (lv_sub hl [2, 3, 4, 1, 0] rfl)
                        · refine lv_iconst (v := 1) hx hb dX8_leastLike_131 (by decide) ?_
                          refine lv_goto (tgt := 136) hx hb dX8_leastLike_132 (by decide) ?_
                          refine lv_istore_n (lv' := [(3, .int 1), (0, .ref o), (1, .int (nI nn)), (2, .int (nI oo)), (4, .int (nI kx))]) hx hb dX8_leastLike_136 rfl hl (by decide) rfl (fun ls hl => ?_)
                          refine lv_iinc (v := nI (kx + 1)) (lv' := [(4, .int (nI (kx + 1))), (3, .int 1), (0, .ref o), (1, .int (nI nn)), (2, .int (nI oo))]) hx hb dX8_leastLike_137 hl (k := 4) rfl (nI_1 kx) (by decide) rfl (fun ls hl => ?_)
                          refine lv_goto (tgt := 57) hx hb dX8_leastLike_140 (by decide) ?_
                          have a269 : f254 o = some (.inr (8, [.int u1, .int u2, .int u3, .ref wev, .int (nI nl), .ref wnb, .int (nI nn), .ref wki, .ref wmy, .ref wce, .ref wiw, .ref wli, .ref wha, .ref wwt, .int (nI nf), .ref wfy, .ref wfk, .int (nI nc), .ref wem, .ref wna, .ref wpl, .ref whs, .long lk, .int (nI ks), .ref wk1, .ref wk2, .ref wk3])) := k256 _ _ a252 
                          have a270 : f243 wki = some (.inl (cy 0, 60, .inl gk)) := k245 _ _ a233 
                          have a271 : f249 wki = some (.inl (cy 0, 60, .inl gk)) := k251 _ _ a270 
                          have a272 : f254 wki = some (.inl (cy 0, 60, .inl gk)) := k256 _ _ a271 
                          have a273 : f243 wmy = some (.inl (cy 0, 60, .inl gm)) := k245 _ _ a234 
                          have a274 : f249 wmy = some (.inl (cy 0, 60, .inl gm)) := k251 _ _ a273 
                          have a275 : f254 wmy = some (.inl (cy 0, 60, .inl gm)) := k256 _ _ a274 
                          have a276 : f254 wce = some (.inl (cy 1, 960, .inr (.inl gc))) := k256 _ _ a253 
                          have a277 : f243 wli = some (.inl (cy 0, 60, .inl gl)) := k245 _ _ a236 
                          have a278 : f249 wli = some (.inl (cy 0, 60, .inl gl)) := k251 _ _ a277 
                          have a279 : f254 wli = some (.inl (cy 0, 60, .inl gl)) := k256 _ _ a278 
                          exact ih_230 (kx + 1) 1 _ _ _ _ (by omega) (by omega) (fun _ => hlo (by assumption)) (fun _ => hke (by assumption)) a269 a272 a275 a276 a279 (by
                                intro b e hb 
                                have hb1 : fL229 b = some e := k231 b e hb 
                                have hb2 : f243 b = some e := k245 b e hb1 
                                have hb3 : f249 b = some e := k251 b e hb2 
                                have hb4 : f254 b = some e := k256 b e hb3 
                                exact hb4) hz hS (lv_sub hl [2, 3, 4, 1, 0] rfl)
                      · have hkn : gk nn = 4 := by
                          by_cases h9 : gk nn = 4
                          · exact h9
                          · exact absurd (by rw [if_neg h9]) c246
                        have hlt : ln oo = t := hlo (by assumption)
                        have hko : gk oo = 4 := (hke (by assumption)).trans hkn
                        refine lv_aload_n hx hb dX8_leastLike_80 rfl (lv_at hl 0 rfl) ?_
                        refine lv_aload_n hx hb dX8_leastLike_81 rfl (lv_at hl 0 rfl) ?_
                        refine lv_iload_n hx hb dX8_leastLike_82 rfl (lv_at hl 2 rfl) ?_
                        refine lv_iload hx hb dX8_leastLike_83 (lv_at hl 4 rfl) ?_
                        have a280 : f243 o = some (.inr (8, [.int u1, .int u2, .int u3, .ref wev, .int (nI nl), .ref wnb, .int (nI nn), .ref wki, .ref wmy, .ref wce, .ref wiw, .ref wli, .ref wha, .ref wwt, .int (nI nf), .ref wfy, .ref wfk, .int (nI nc), .ref wem, .ref wna, .ref wpl, .ref whs, .long lk, .int (nI ks), .ref wk1, .ref wk2, .ref wk3])) := k245 _ _ a232 
                        have a281 : f243 wce = some (.inl (cy 1, 960, .inr (.inl gc))) := k245 _ _ a235 
                        refine z_callVl (As := [.int (nI oo), .int (nI kx)]) C hz hS hA hl (k_X8_cellOf l D cy f243 o wev wnb wki wmy wce wiw wli wha wwt wfy wfk wem wna wpl whs wk1 wk2 wk3 u1 u2 u3 nl nn nf nc lk ks gc oo kx a280 a281 (by omega)) zyX8_cellOf mMX8_90 a280 zl8 rfl rfl (Nat.le_of_ble_eq_true rfl) ⟨Nat.le_of_ble_eq_true rfl, Nat.le_of_ble_eq_true rfl⟩ ⟨Nat.le_of_ble_eq_true rfl, Nat.le_of_ble_eq_true rfl⟩ dX8_leastLike_85 (fun r f282 H locs h283 hz hS => ?_)
                        obtain ⟨rfl, k284⟩ := h283
                        have a285 : f282 o = some (.inr (8, [.int u1, .int u2, .int u3, .ref wev, .int (nI nl), .ref wnb, .int (nI nn), .ref wki, .ref wmy, .ref wce, .ref wiw, .ref wli, .ref wha, .ref wwt, .int (nI nf), .ref wfy, .ref wfk, .int (nI nc), .ref wem, .ref wna, .ref wpl, .ref whs, .long lk, .int (nI ks), .ref wk1, .ref wk2, .ref wk3])) := k284 _ _ a280 
                        have a286 : f243 wli = some (.inl (cy 0, 60, .inl gl)) := k245 _ _ a236 
                        have a287 : f282 wli = some (.inl (cy 0, 60, .inl gl)) := k284 _ _ a286 
                        refine z_callVi (As := [.long (gc (16 * oo + kx))]) C hz hS hA hl (k_X8_likeOf l D cy f282 o wev wnb wki wmy wce wiw wli wha wwt wfy wfk wem wna wpl whs wk1 wk2 wk3 u1 u2 u3 nl nn nf nc lk ks gl (gc (16 * oo + kx)) a285 a287 (z_ref hMP (by omega) (by omega) hko (by omega))) zyX8_likeOf mMX8_94 a285 zl8 rfl rfl (Nat.le_of_ble_eq_true rfl) ⟨Nat.le_of_ble_eq_true rfl, Nat.le_of_ble_eq_true rfl⟩ ⟨Nat.le_of_ble_eq_true rfl, Nat.le_of_ble_eq_true rfl⟩ dX8_leastLike_88 (fun r290 f288 H locs h289 hz hS => ?_)
                        have k291 := h289
                        refine lv_aload_n hx hb dX8_leastLike_91 rfl (lv_at hl 0 rfl) ?_
                        refine lv_aload_n hx hb dX8_leastLike_92 rfl (lv_at hl 0 rfl) ?_
                        refine lv_iload_n hx hb dX8_leastLike_93 rfl (lv_at hl 1 rfl) ?_
                        refine lv_iload hx hb dX8_leastLike_94 (lv_at hl 4 rfl) ?_
                        have a292 : f288 o = some (.inr (8, [.int u1, .int u2, .int u3, .ref wev, .int (nI nl), .ref wnb, .int (nI nn), .ref wki, .ref wmy, .ref wce, .ref wiw, .ref wli, .ref wha, .ref wwt, .int (nI nf), .ref wfy, .ref wfk, .int (nI nc), .ref wem, .ref wna, .ref wpl, .ref whs, .long lk, .int (nI ks), .ref wk1, .ref wk2, .ref wk3])) := k291 _ _ a285 
                        have a293 : f282 wce = some (.inl (cy 1, 960, .inr (.inl gc))) := k284 _ _ a281 
                        have a294 : f288 wce = some (.inl (cy 1, 960, .inr (.inl gc))) := k291 _ _ a293 
                        refine z_callVl (As := [.int (nI nn), .int (nI kx)]) C hz hS hA hl (k_X8_cellOf l D cy f288 o wev wnb wki wmy wce wiw wli wha wwt wfy wfk wem wna wpl whs wk1 wk2 wk3 u1 u2 u3 nl nn nf nc lk ks gc nn kx a292 a294 (by omega)) zyX8_cellOf mMX8_90 a292 zl8 rfl rfl (Nat.le_of_ble_eq_true rfl) ⟨Nat.le_of_ble_eq_true rfl, Nat.le_of_ble_eq_true rfl⟩ ⟨Nat.le_of_ble_eq_true rfl, Nat.le_of_ble_eq_true rfl⟩ dX8_leastLike_96 (fun r f295 H locs h296 hz hS => ?_)
                        obtain ⟨rfl, k297⟩ := h296
                        have a298 : f295 o = some (.inr (8, [.int u1, .int u2, .int u3, .ref wev, .int (nI nl), .ref wnb, .int (nI nn), .ref wki, .ref wmy, .ref wce, .ref wiw, .ref wli, .ref wha, .ref wwt, .int (nI nf), .ref wfy, .ref wfk, .int (nI nc), .ref wem, .ref wna, .ref wpl, .ref whs, .long lk, .int (nI ks), .ref wk1, .ref wk2, .ref wk3])) := k297 _ _ a292 
                        have a299 : f288 wli = some (.inl (cy 0, 60, .inl gl)) := k291 _ _ a287 
                        have a300 : f295 wli = some (.inl (cy 0, 60, .inl gl)) := k297 _ _ a299 
                        refine z_callVi (As := [.long (gc (16 * nn + kx))]) C hz hS hA hl (k_X8_likeOf l D cy f295 o wev wnb wki wmy wce wiw wli wha wwt wfy wfk wem wna wpl whs wk1 wk2 wk3 u1 u2 u3 nl nn nf nc lk ks gl (gc (16 * nn + kx)) a298 a300 (z_r60 (by omega) (hrf hkn kx (by omega)))) zyX8_likeOf mMX8_94 a298 zl8 rfl rfl (Nat.le_of_ble_eq_true rfl) ⟨Nat.le_of_ble_eq_true rfl, Nat.le_of_ble_eq_true rfl⟩ ⟨Nat.le_of_ble_eq_true rfl, Nat.le_of_ble_eq_true rfl⟩ dX8_leastLike_99 (fun r303 f301 H locs h302 hz hS => ?_)
                        have k304 := h302
                        refine lv_icmp_ne (tgt := 109) hx hb dX8_leastLike_102 (by decide) (fun c305 => ?_) (fun c305 => ?_)
                        · refine lv_iconst (v := 0) hx hb dX8_leastLike_109 (by decide) ?_
                          refine lv_goto (tgt := 136) hx hb dX8_leastLike_110 (by decide) ?_
                          refine lv_istore_n (lv' := [(3, .int 0), (0, .ref o), (1, .int (nI nn)), (2, .int (nI oo)), (4, .int (nI kx))]) hx hb dX8_leastLike_136 rfl hl (by decide) rfl (fun ls hl => ?_)
                          refine lv_iinc (v := nI (kx + 1)) (lv' := [(4, .int (nI (kx + 1))), (3, .int 0), (0, .ref o), (1, .int (nI nn)), (2, .int (nI oo))]) hx hb dX8_leastLike_137 hl (k := 4) rfl (nI_1 kx) (by decide) rfl (fun ls hl => ?_)
                          refine lv_goto (tgt := 57) hx hb dX8_leastLike_140 (by decide) ?_
                          have a306 : f301 o = some (.inr (8, [.int u1, .int u2, .int u3, .ref wev, .int (nI nl), .ref wnb, .int (nI nn), .ref wki, .ref wmy, .ref wce, .ref wiw, .ref wli, .ref wha, .ref wwt, .int (nI nf), .ref wfy, .ref wfk, .int (nI nc), .ref wem, .ref wna, .ref wpl, .ref whs, .long lk, .int (nI ks), .ref wk1, .ref wk2, .ref wk3])) := k304 _ _ a298 
                          have a307 : f243 wki = some (.inl (cy 0, 60, .inl gk)) := k245 _ _ a233 
                          have a308 : f282 wki = some (.inl (cy 0, 60, .inl gk)) := k284 _ _ a307 
                          have a309 : f288 wki = some (.inl (cy 0, 60, .inl gk)) := k291 _ _ a308 
                          have a310 : f295 wki = some (.inl (cy 0, 60, .inl gk)) := k297 _ _ a309 
                          have a311 : f301 wki = some (.inl (cy 0, 60, .inl gk)) := k304 _ _ a310 
                          have a312 : f243 wmy = some (.inl (cy 0, 60, .inl gm)) := k245 _ _ a234 
                          have a313 : f282 wmy = some (.inl (cy 0, 60, .inl gm)) := k284 _ _ a312 
                          have a314 : f288 wmy = some (.inl (cy 0, 60, .inl gm)) := k291 _ _ a313 
                          have a315 : f295 wmy = some (.inl (cy 0, 60, .inl gm)) := k297 _ _ a314 
                          have a316 : f301 wmy = some (.inl (cy 0, 60, .inl gm)) := k304 _ _ a315 
                          have a317 : f295 wce = some (.inl (cy 1, 960, .inr (.inl gc))) := k297 _ _ a294 
                          have a318 : f301 wce = some (.inl (cy 1, 960, .inr (.inl gc))) := k304 _ _ a317 
                          have a319 : f301 wli = some (.inl (cy 0, 60, .inl gl)) := k304 _ _ a300 
                          exact ih_230 (kx + 1) 0 _ _ _ _ (by omega) (by omega) (fun _ => hlo (by assumption)) (fun _ => hke (by assumption)) a306 a311 a316 a318 a319 (by
                                intro b e hb 
                                have hb1 : fL229 b = some e := k231 b e hb 
                                have hb2 : f243 b = some e := k245 b e hb1 
                                have hb3 : f282 b = some e := k284 b e hb2 
                                have hb4 : f288 b = some e := k291 b e hb3 
                                have hb5 : f295 b = some e := k297 b e hb4 
                                have hb6 : f301 b = some e := k304 b e hb5 
                                exact hb6) hz hS (lv_sub hl [2, 3, 4, 1, 0] rfl)
                        · refine lv_iconst (v := 1) hx hb dX8_leastLike_105 (by decide) ?_
                          refine lv_goto (tgt := 136) hx hb dX8_leastLike_106 (by decide) ?_
                          refine lv_istore_n (lv' := [(3, .int 1), (0, .ref o), (1, .int (nI nn)), (2, .int (nI oo)), (4, .int (nI kx))]) hx hb dX8_leastLike_136 rfl hl (by decide) rfl (fun ls hl => ?_)
                          refine lv_iinc (v := nI (kx + 1)) (lv' := [(4, .int (nI (kx + 1))), (3, .int 1), (0, .ref o), (1, .int (nI nn)), (2, .int (nI oo))]) hx hb dX8_leastLike_137 hl (k := 4) rfl (nI_1 kx) (by decide) rfl (fun ls hl => ?_)
                          refine lv_goto (tgt := 57) hx hb dX8_leastLike_140 (by decide) ?_
                          have a320 : f301 o = some (.inr (8, [.int u1, .int u2, .int u3, .ref wev, .int (nI nl), .ref wnb, .int (nI nn), .ref wki, .ref wmy, .ref wce, .ref wiw, .ref wli, .ref wha, .ref wwt, .int (nI nf), .ref wfy, .ref wfk, .int (nI nc), .ref wem, .ref wna, .ref wpl, .ref whs, .long lk, .int (nI ks), .ref wk1, .ref wk2, .ref wk3])) := k304 _ _ a298 
                          have a321 : f243 wki = some (.inl (cy 0, 60, .inl gk)) := k245 _ _ a233 
                          have a322 : f282 wki = some (.inl (cy 0, 60, .inl gk)) := k284 _ _ a321 
                          have a323 : f288 wki = some (.inl (cy 0, 60, .inl gk)) := k291 _ _ a322 
                          have a324 : f295 wki = some (.inl (cy 0, 60, .inl gk)) := k297 _ _ a323 
                          have a325 : f301 wki = some (.inl (cy 0, 60, .inl gk)) := k304 _ _ a324 
                          have a326 : f243 wmy = some (.inl (cy 0, 60, .inl gm)) := k245 _ _ a234 
                          have a327 : f282 wmy = some (.inl (cy 0, 60, .inl gm)) := k284 _ _ a326 
                          have a328 : f288 wmy = some (.inl (cy 0, 60, .inl gm)) := k291 _ _ a327 
                          have a329 : f295 wmy = some (.inl (cy 0, 60, .inl gm)) := k297 _ _ a328 
                          have a330 : f301 wmy = some (.inl (cy 0, 60, .inl gm)) := k304 _ _ a329 
                          have a331 : f295 wce = some (.inl (cy 1, 960, .inr (.inl gc))) := k297 _ _ a294 
                          have a332 : f301 wce = some (.inl (cy 1, 960, .inr (.inl gc))) := k304 _ _ a331 
                          have a333 : f301 wli = some (.inl (cy 0, 60, .inl gl)) := k304 _ _ a300 
                          exact ih_230 (kx + 1) 1 _ _ _ _ (by omega) (by omega) (fun _ => hlo (by assumption)) (fun _ => hke (by assumption)) a320 a325 a330 a332 a333 (by
                                intro b e hb 
                                have hb1 : fL229 b = some e := k231 b e hb 
                                have hb2 : f243 b = some e := k245 b e hb1 
                                have hb3 : f282 b = some e := k284 b e hb2 
                                have hb4 : f288 b = some e := k291 b e hb3 
                                have hb5 : f295 b = some e := k297 b e hb4 
                                have hb6 : f301 b = some e := k304 b e hb5 
                                exact hb6) hz hS (lv_sub hl [2, 3, 4, 1, 0] rfl)
              exact lp228 (t - 0 + 1) 0 0 _ _ _ _ (Nat.lt_succ_self _) (by omega) (fun h9 => absurd rfl h9) (fun h9 => absurd rfl h9) a5 a6 a7 a8 a9 (fun b e hb => hb) hz hS (lv_sub hl [2, 3, 4, 1, 0] rfl)
            · refine lv_iconst (v := 1) hx hb dX8_leastLike_48 (by decide) ?_
              refine lv_goto (tgt := 53) hx hb dX8_leastLike_49 (by decide) ?_
              refine lv_istore_n (lv' := [(3, .int 1), (0, .ref o), (1, .int (nI nn)), (2, .int (nI oo))]) hx hb dX8_leastLike_53 rfl hl (by decide) rfl (fun ls hl => ?_)
              refine lv_iconst (v := 0) hx hb dX8_leastLike_54 (by decide) ?_
              refine lv_istore (lv' := [(4, .int 0), (3, .int 1), (0, .ref o), (1, .int (nI nn)), (2, .int (nI oo))]) hx hb dX8_leastLike_55 hl (by decide) rfl (fun ls hl => ?_)
              have lp334 : ∀ (n : Nat) (kx : Nat) (isv : Int32) (fL335 : zM) (H : Heap) (locs : List Loc) (ls : Array Slot), (t - kx) < n → (kx ≤ t) → (¬ isv = 0 → ln oo = t) → (¬ isv = 0 → gk oo = gk nn) → fL335 o = some (.inr (8, [.int u1, .int u2, .int u3, .ref wev, .int (nI nl), .ref wnb, .int (nI nn), .ref wki, .ref wmy, .ref wce, .ref wiw, .ref wli, .ref wha, .ref wwt, .int (nI nf), .ref wfy, .ref wfk, .int (nI nc), .ref wem, .ref wna, .ref wpl, .ref whs, .long lk, .int (nI ks), .ref wk1, .ref wk2, .ref wk3])) → fL335 wki = some (.inl (cy 0, 60, .inl gk)) → fL335 wmy = some (.inl (cy 0, 60, .inl gm)) → fL335 wce = some (.inl (cy 1, 960, .inr (.inl gc))) → fL335 wli = some (.inl (cy 0, 60, .inl gl)) → (∀ (b : Nat) (e : va_E), fL2 b = some e → fL335 b = some e) → zH D (zA f s.heap.size) fL335 H → va_S (zA f s.heap.size) s.heap H locs → lv_has ls 5 [(0, .ref o), (1, .int (nI nn)), (2, .int (nI oo)), (3, .int isv), (4, .int (nI kx))] → W p l e rmX8_leastLike s m ([.ref o, .int (nI nn)] : List Value).toArray below meth c H locs 0 0 (MQ below (va_Qi (fun (r : Int32) (f1 : zM) => ∃ (jl : Nat), r = (nI jl) ∧ (jl ≤ nn) ∧ (∀ (b : Nat) (e : va_E), f b = some e → f1 b = some e)) (zB D f s.heap.size) (zA f s.heap.size)) ([.ref o, .int (nI nn)] : List Value).toArray s rmX8_leastLike.cells rmX8_leastLike.slots (zA f s.heap.size)) (F0 m 57 ls []) := by
                intro n
                induction n with
                | zero => intro kx isv fL335 H locs ls hmz; exact absurd hmz (Nat.not_lt_zero _)
                | succ n_336 ih_336 =>
                  intro kx isv fL335 H locs ls hmz_336 hik hlo hke a338 a339 a340 a341 a342 k337 hz hS hl
                  refine lv_iload_n hx hb dX8_leastLike_57 rfl (lv_at hl 3 rfl) ?_
                  refine lv_if_eq (tgt := 143) hx hb dX8_leastLike_58 (by decide) (fun c343 => ?_) (fun c343 => ?_)
                  · refine lv_iload_n hx hb dX8_leastLike_143 rfl (lv_at hl 3 rfl) ?_
                    refine lv_if_eq (tgt := 149) hx hb dX8_leastLike_144 (by decide) (fun c344 => ?_) (fun c344 => ?_)
                    · refine lv_iinc (v := nI (oo + 1)) (lv' := [(2, .int (nI (oo + 1))), (0, .ref o), (1, .int (nI nn)), (3, .int isv), (4, .int (nI kx))]) hx hb dX8_leastLike_149 hl (k := 2) rfl (nI_1 oo) (by decide) rfl (fun ls hl => ?_)
                      refine lv_goto (tgt := 2) hx hb dX8_leastLike_152 (by decide) ?_
                      exact ih_3 (oo + 1) _ _ _ _ (by omega) (by omega) a338 a339 a340 a341 a342 (by
                            intro b e hb 
                            have hb0 : fL2 b = some e := k4 b e hb 
                            have hb1 : fL335 b = some e := k337 b e hb0 
                            exact hb1) hz hS (lv_sub hl [1, 2, 0] rfl)
                    · refine lv_iload_n hx hb dX8_leastLike_147 rfl (lv_at hl 2 rfl) ?_
                      exact z_iret C hr rfl hz hS ⟨oo, rfl, (by omega), (by
                            intro b e hb 
                            have hb0 : fL2 b = some e := k4 b e hb 
                            have hb1 : fL335 b = some e := k337 b e hb0 
                            exact hb1)⟩ (Nat.le_of_ble_eq_true rfl) (Nat.le_of_ble_eq_true rfl) dX8_leastLike_148
                  · refine lv_iload hx hb dX8_leastLike_61 (lv_at hl 4 rfl) ?_
                    refine lv_aload_n hx hb dX8_leastLike_63 rfl (lv_at hl 0 rfl) ?_
                    refine z_get (v := .ref wmy) C hz a338 zl8 mFX8_23 (by decide) rfl dX8_leastLike_64 ?_
                    refine lv_iload_n hx hb dX8_leastLike_67 rfl (lv_at hl 1 rfl) ?_
                    refine z_iald nn C hz a340 rfl (by omega) (by omega) dX8_leastLike_68 ?_
                    refine lv_topi (fun y345 e346 => ?_)
                    obtain rfl : y345 = nI t := e346.trans hmt
                    refine lv_icmp_ge (tgt := 143) hx hb dX8_leastLike_69 (by decide) (fun c347 => ?_) (fun c347 => ?_)
                    · replace c347 : (t ≤ kx) := (nI_leI (a := t) (b := kx) (by omega) (by omega)).mp c347
                      refine lv_iload_n hx hb dX8_leastLike_143 rfl (lv_at hl 3 rfl) ?_
                      refine lv_if_eq (tgt := 149) hx hb dX8_leastLike_144 (by decide) (fun c348 => ?_) (fun c348 => ?_)
                      · refine lv_iinc (v := nI (oo + 1)) (lv' := [(2, .int (nI (oo + 1))), (0, .ref o), (1, .int (nI nn)), (3, .int isv), (4, .int (nI kx))]) hx hb dX8_leastLike_149 hl (k := 2) rfl (nI_1 oo) (by decide) rfl (fun ls hl => ?_)
                        refine lv_goto (tgt := 2) hx hb dX8_leastLike_152 (by decide) ?_
                        exact ih_3 (oo + 1) _ _ _ _ (by omega) (by omega) a338 a339 a340 a341 a342 (by
                              intro b e hb 
                              have hb0 : fL2 b = some e := k4 b e hb 
                              have hb1 : fL335 b = some e := k337 b e hb0 
                              exact hb1) hz hS (lv_sub hl [1, 2, 0] rfl)
                      · refine lv_iload_n hx hb dX8_leastLike_147 rfl (lv_at hl 2 rfl) ?_
                        exact z_iret C hr rfl hz hS ⟨oo, rfl, (by omega), (by
                              intro b e hb 
                              have hb0 : fL2 b = some e := k4 b e hb 
                              have hb1 : fL335 b = some e := k337 b e hb0 
                              exact hb1)⟩ (Nat.le_of_ble_eq_true rfl) (Nat.le_of_ble_eq_true rfl) dX8_leastLike_148
                    · replace c347 : ¬ (t ≤ kx) := fun h => c347 ((nI_leI (a := t) (b := kx) (by omega) (by omega)).mpr h)
                      refine lv_aload_n hx hb dX8_leastLike_72 rfl (lv_at hl 0 rfl) ?_
                      refine lv_iload_n hx hb dX8_leastLike_73 rfl (lv_at hl 1 rfl) ?_
                      refine z_callVi (As := [.int (nI nn)]) C hz hS hA hl (k_X8_isFigurePart l D cy fL335 o wev wnb wki wmy wce wiw wli wha wwt wfy wfk wem wna wpl whs wk1 wk2 wk3 u1 u2 u3 nl nn nf nc lk ks gk nn a338 a339 (by omega)) zyX8_isFigurePart mMX8_86 a338 zl8 rfl rfl (Nat.le_of_ble_eq_true rfl) ⟨Nat.le_of_ble_eq_true rfl, Nat.le_of_ble_eq_true rfl⟩ ⟨Nat.le_of_ble_eq_true rfl, Nat.le_of_ble_eq_true rfl⟩ dX8_leastLike_74 (fun r f349 H locs h350 hz hS => ?_)
                      obtain ⟨rfl, k351⟩ := h350
                      refine lv_if_eq (tgt := 113) hx hb dX8_leastLike_77 (by decide) (fun c352 => ?_) (fun c352 => ?_)
                      · refine lv_aload_n hx hb dX8_leastLike_113 rfl (lv_at hl 0 rfl) ?_
                        refine lv_iload_n hx hb dX8_leastLike_114 rfl (lv_at hl 2 rfl) ?_
                        refine lv_iload hx hb dX8_leastLike_115 (lv_at hl 4 rfl) ?_
                        have a353 : f349 o = some (.inr (8, [.int u1, .int u2, .int u3, .ref wev, .int (nI nl), .ref wnb, .int (nI nn), .ref wki, .ref wmy, .ref wce, .ref wiw, .ref wli, .ref wha, .ref wwt, .int (nI nf), .ref wfy, .ref wfk, .int (nI nc), .ref wem, .ref wna, .ref wpl, .ref whs, .long lk, .int (nI ks), .ref wk1, .ref wk2, .ref wk3])) := k351 _ _ a338 
                        have a354 : f349 wce = some (.inl (cy 1, 960, .inr (.inl gc))) := k351 _ _ a341 
                        refine z_callVl (As := [.int (nI oo), .int (nI kx)]) C hz hS hA hl (k_X8_cellOf l D cy f349 o wev wnb wki wmy wce wiw wli wha wwt wfy wfk wem wna wpl whs wk1 wk2 wk3 u1 u2 u3 nl nn nf nc lk ks gc oo kx a353 a354 (by omega)) zyX8_cellOf mMX8_90 a353 zl8 rfl rfl (Nat.le_of_ble_eq_true rfl) ⟨Nat.le_of_ble_eq_true rfl, Nat.le_of_ble_eq_true rfl⟩ ⟨Nat.le_of_ble_eq_true rfl, Nat.le_of_ble_eq_true rfl⟩ dX8_leastLike_117 (fun r f355 H locs h356 hz hS => ?_)
                        obtain ⟨rfl, k357⟩ := h356
                        refine lv_aload_n hx hb dX8_leastLike_120 rfl (lv_at hl 0 rfl) ?_
                        refine lv_iload_n hx hb dX8_leastLike_121 rfl (lv_at hl 1 rfl) ?_
                        refine lv_iload hx hb dX8_leastLike_122 (lv_at hl 4 rfl) ?_
                        have a358 : f355 o = some (.inr (8, [.int u1, .int u2, .int u3, .ref wev, .int (nI nl), .ref wnb, .int (nI nn), .ref wki, .ref wmy, .ref wce, .ref wiw, .ref wli, .ref wha, .ref wwt, .int (nI nf), .ref wfy, .ref wfk, .int (nI nc), .ref wem, .ref wna, .ref wpl, .ref whs, .long lk, .int (nI ks), .ref wk1, .ref wk2, .ref wk3])) := k357 _ _ a353 
                        have a359 : f355 wce = some (.inl (cy 1, 960, .inr (.inl gc))) := k357 _ _ a354 
                        refine z_callVl (As := [.int (nI nn), .int (nI kx)]) C hz hS hA hl (k_X8_cellOf l D cy f355 o wev wnb wki wmy wce wiw wli wha wwt wfy wfk wem wna wpl whs wk1 wk2 wk3 u1 u2 u3 nl nn nf nc lk ks gc nn kx a358 a359 (by omega)) zyX8_cellOf mMX8_90 a358 zl8 rfl rfl (Nat.le_of_ble_eq_true rfl) ⟨Nat.le_of_ble_eq_true rfl, Nat.le_of_ble_eq_true rfl⟩ ⟨Nat.le_of_ble_eq_true rfl, Nat.le_of_ble_eq_true rfl⟩ dX8_leastLike_124 (fun r f360 H locs h361 hz hS => ?_)
                        obtain ⟨rfl, k362⟩ := h361
                        refine W.lcmp hx hb dX8_leastLike_127 ?_
                        refine lv_if_ne (tgt := 135) hx hb dX8_leastLike_128 (by decide) (fun c363 => ?_) (fun c363 => ?_)
                        · refine lv_iconst (v := 0) hx hb dX8_leastLike_135 (by decide) ?_
                          refine lv_istore_n (lv' := [(3, .int 0), (0, .ref o), (1, .int (nI nn)), (2, .int (nI oo)), (4, .int (nI kx))]) hx hb dX8_leastLike_136 rfl hl (by decide) rfl (fun ls hl => ?_)
                          refine lv_iinc (v := nI (kx + 1)) (lv' := [(4, .int (nI (kx + 1))), (3, .int 0), (0, .ref o), (1, .int (nI nn)), (2, .int (nI oo))]) hx hb dX8_leastLike_137 hl (k := 4) rfl (nI_1 kx) (by decide) rfl (fun ls hl => ?_)
                          refine lv_goto (tgt := 57) hx hb dX8_leastLike_140 (by decide) ?_
                          have a364 : f360 o = some (.inr (8, [.int u1, .int u2, .int u3, .ref wev, .int (nI nl), .ref wnb, .int (nI nn), .ref wki, .ref wmy, .ref wce, .ref wiw, .ref wli, .ref wha, .ref wwt, .int (nI nf), .ref wfy, .ref wfk, .int (nI nc), .ref wem, .ref wna, .ref wpl, .ref whs, .long lk, .int (nI ks), .ref wk1, .ref wk2, .ref wk3])) := k362 _ _ a358 
                          have a365 : f349 wki = some (.inl (cy 0, 60, .inl gk)) := k351 _ _ a339 
                          have a366 : f355 wki = some (.inl (cy 0, 60, .inl gk)) := k357 _ _ a365 
                          have a367 : f360 wki = some (.inl (cy 0, 60, .inl gk)) := k362 _ _ a366 
                          have a368 : f349 wmy = some (.inl (cy 0, 60, .inl gm)) := k351 _ _ a340 
                          have a369 : f355 wmy = some (.inl (cy 0, 60, .inl gm)) := k357 _ _ a368 
                          have a370 : f360 wmy = some (.inl (cy 0, 60, .inl gm)) := k362 _ _ a369 
                          have a371 : f360 wce = some (.inl (cy 1, 960, .inr (.inl gc))) := k362 _ _ a359 
                          have a372 : f349 wli = some (.inl (cy 0, 60, .inl gl)) := k351 _ _ a342 
                          have a373 : f355 wli = some (.inl (cy 0, 60, .inl gl)) := k357 _ _ a372 
                          have a374 : f360 wli = some (.inl (cy 0, 60, .inl gl)) := k362 _ _ a373 
                          exact ih_336 (kx + 1) 0 _ _ _ _ (by omega) (by omega) (fun _ => hlo (by assumption)) (fun _ => hke (by assumption)) a364 a367 a370 a371 a374 (by
                                intro b e hb 
                                have hb1 : fL335 b = some e := k337 b e hb 
                                have hb2 : f349 b = some e := k351 b e hb1 
                                have hb3 : f355 b = some e := k357 b e hb2 
                                have hb4 : f360 b = some e := k362 b e hb3 
                                exact hb4) hz hS (lv_sub hl [2, 3, 4, 1, 0] rfl)
                        · refine lv_iconst (v := 1) hx hb dX8_leastLike_131 (by decide) ?_
                          refine lv_goto (tgt := 136) hx hb dX8_leastLike_132 (by decide) ?_
                          refine lv_istore_n (lv' := [(3, .int 1), (0, .ref o), (1, .int (nI nn)), (2, .int (nI oo)), (4, .int (nI kx))]) hx hb dX8_leastLike_136 rfl hl (by decide) rfl (fun ls hl => ?_)
                          refine lv_iinc (v := nI (kx + 1)) (lv' := [(4, .int (nI (kx + 1))), (3, .int 1), (0, .ref o), (1, .int (nI nn)), (2, .int (nI oo))]) hx hb dX8_leastLike_137 hl (k := 4) rfl (nI_1 kx) (by decide) rfl (fun ls hl => ?_)
                          refine lv_goto (tgt := 57) hx hb dX8_leastLike_140 (by decide) ?_
                          have a375 : f360 o = some (.inr (8, [.int u1, .int u2, .int u3, .ref wev, .int (nI nl), .ref wnb, .int (nI nn), .ref wki, .ref wmy, .ref wce, .ref wiw, .ref wli, .ref wha, .ref wwt, .int (nI nf), .ref wfy, .ref wfk, .int (nI nc), .ref wem, .ref wna, .ref wpl, .ref whs, .long lk, .int (nI ks), .ref wk1, .ref wk2, .ref wk3])) := k362 _ _ a358 
                          have a376 : f349 wki = some (.inl (cy 0, 60, .inl gk)) := k351 _ _ a339 
                          have a377 : f355 wki = some (.inl (cy 0, 60, .inl gk)) := k357 _ _ a376 
                          have a378 : f360 wki = some (.inl (cy 0, 60, .inl gk)) := k362 _ _ a377 
                          have a379 : f349 wmy = some (.inl (cy 0, 60, .inl gm)) := k351 _ _ a340 
                          have a380 : f355 wmy = some (.inl (cy 0, 60, .inl gm)) := k357 _ _ a379 
                          have a381 : f360 wmy = some (.inl (cy 0, 60, .inl gm)) := k362 _ _ a380 
                          have a382 : f360 wce = some (.inl (cy 1, 960, .inr (.inl gc))) := k362 _ _ a359 
                          have a383 : f349 wli = some (.inl (cy 0, 60, .inl gl)) := k351 _ _ a342 
                          have a384 : f355 wli = some (.inl (cy 0, 60, .inl gl)) := k357 _ _ a383 
                          have a385 : f360 wli = some (.inl (cy 0, 60, .inl gl)) := k362 _ _ a384 
                          exact ih_336 (kx + 1) 1 _ _ _ _ (by omega) (by omega) (fun _ => hlo (by assumption)) (fun _ => hke (by assumption)) a375 a378 a381 a382 a385 (by
                                intro b e hb 
                                have hb1 : fL335 b = some e := k337 b e hb 
                                have hb2 : f349 b = some e := k351 b e hb1 
                                have hb3 : f355 b = some e := k357 b e hb2 
                                have hb4 : f360 b = some e := k362 b e hb3 
                                exact hb4) hz hS (lv_sub hl [2, 3, 4, 1, 0] rfl)
                      · have hkn : gk nn = 4 := by
                          by_cases h9 : gk nn = 4
                          · exact h9
                          · exact absurd (by rw [if_neg h9]) c352
                        have hlt : ln oo = t := hlo (by assumption)
                        have hko : gk oo = 4 := (hke (by assumption)).trans hkn
                        refine lv_aload_n hx hb dX8_leastLike_80 rfl (lv_at hl 0 rfl) ?_
                        refine lv_aload_n hx hb dX8_leastLike_81 rfl (lv_at hl 0 rfl) ?_
                        refine lv_iload_n hx hb dX8_leastLike_82 rfl (lv_at hl 2 rfl) ?_
                        refine lv_iload hx hb dX8_leastLike_83 (lv_at hl 4 rfl) ?_
                        have a386 : f349 o = some (.inr (8, [.int u1, .int u2, .int u3, .ref wev, .int (nI nl), .ref wnb, .int (nI nn), .ref wki, .ref wmy, .ref wce, .ref wiw, .ref wli, .ref wha, .ref wwt, .int (nI nf), .ref wfy, .ref wfk, .int (nI nc), .ref wem, .ref wna, .ref wpl, .ref whs, .long lk, .int (nI ks), .ref wk1, .ref wk2, .ref wk3])) := k351 _ _ a338 
                        have a387 : f349 wce = some (.inl (cy 1, 960, .inr (.inl gc))) := k351 _ _ a341 
                        refine z_callVl (As := [.int (nI oo), .int (nI kx)]) C hz hS hA hl (k_X8_cellOf l D cy f349 o wev wnb wki wmy wce wiw wli wha wwt wfy wfk wem wna wpl whs wk1 wk2 wk3 u1 u2 u3 nl nn nf nc lk ks gc oo kx a386 a387 (by omega)) zyX8_cellOf mMX8_90 a386 zl8 rfl rfl (Nat.le_of_ble_eq_true rfl) ⟨Nat.le_of_ble_eq_true rfl, Nat.le_of_ble_eq_true rfl⟩ ⟨Nat.le_of_ble_eq_true rfl, Nat.le_of_ble_eq_true rfl⟩ dX8_leastLike_85 (fun r f388 H locs h389 hz hS => ?_)
                        obtain ⟨rfl, k390⟩ := h389
                        have a391 : f388 o = some (.inr (8, [.int u1, .int u2, .int u3, .ref wev, .int (nI nl), .ref wnb, .int (nI nn), .ref wki, .ref wmy, .ref wce, .ref wiw, .ref wli, .ref wha, .ref wwt, .int (nI nf), .ref wfy, .ref wfk, .int (nI nc), .ref wem, .ref wna, .ref wpl, .ref whs, .long lk, .int (nI ks), .ref wk1, .ref wk2, .ref wk3])) := k390 _ _ a386 
                        have a392 : f349 wli = some (.inl (cy 0, 60, .inl gl)) := k351 _ _ a342 
                        have a393 : f388 wli = some (.inl (cy 0, 60, .inl gl)) := k390 _ _ a392 
                        refine z_callVi (As := [.long (gc (16 * oo + kx))]) C hz hS hA hl (k_X8_likeOf l D cy f388 o wev wnb wki wmy wce wiw wli wha wwt wfy wfk wem wna wpl whs wk1 wk2 wk3 u1 u2 u3 nl nn nf nc lk ks gl (gc (16 * oo + kx)) a391 a393 (z_ref hMP (by omega) (by omega) hko (by omega))) zyX8_likeOf mMX8_94 a391 zl8 rfl rfl (Nat.le_of_ble_eq_true rfl) ⟨Nat.le_of_ble_eq_true rfl, Nat.le_of_ble_eq_true rfl⟩ ⟨Nat.le_of_ble_eq_true rfl, Nat.le_of_ble_eq_true rfl⟩ dX8_leastLike_88 (fun r396 f394 H locs h395 hz hS => ?_)
                        have k397 := h395
                        refine lv_aload_n hx hb dX8_leastLike_91 rfl (lv_at hl 0 rfl) ?_
                        refine lv_aload_n hx hb dX8_leastLike_92 rfl (lv_at hl 0 rfl) ?_
                        refine lv_iload_n hx hb dX8_leastLike_93 rfl (lv_at hl 1 rfl) ?_
                        refine lv_iload hx hb dX8_leastLike_94 (lv_at hl 4 rfl) ?_
                        have a398 : f394 o = some (.inr (8, [.int u1, .int u2, .int u3, .ref wev, .int (nI nl), .ref wnb, .int (nI nn), .ref wki, .ref wmy, .ref wce, .ref wiw, .ref wli, .ref wha, .ref wwt, .int (nI nf), .ref wfy, .ref wfk, .int (nI nc), .ref wem, .ref wna, .ref wpl, .ref whs, .long lk, .int (nI ks), .ref wk1, .ref wk2, .ref wk3])) := k397 _ _ a391 
                        have a399 : f388 wce = some (.inl (cy 1, 960, .inr (.inl gc))) := k390 _ _ a387 
                        have a400 : f394 wce = some (.inl (cy 1, 960, .inr (.inl gc))) := k397 _ _ a399 
                        refine z_callVl (As := [.int (nI nn), .int (nI kx)]) C hz hS hA hl (k_X8_cellOf l D cy f394 o wev wnb wki wmy wce wiw wli wha wwt wfy wfk wem wna wpl whs wk1 wk2 wk3 u1 u2 u3 nl nn nf nc lk ks gc nn kx a398 a400 (by omega)) zyX8_cellOf mMX8_90 a398 zl8 rfl rfl (Nat.le_of_ble_eq_true rfl) ⟨Nat.le_of_ble_eq_true rfl, Nat.le_of_ble_eq_true rfl⟩ ⟨Nat.le_of_ble_eq_true rfl, Nat.le_of_ble_eq_true rfl⟩ dX8_leastLike_96 (fun r f401 H locs h402 hz hS => ?_)
                        obtain ⟨rfl, k403⟩ := h402
                        have a404 : f401 o = some (.inr (8, [.int u1, .int u2, .int u3, .ref wev, .int (nI nl), .ref wnb, .int (nI nn), .ref wki, .ref wmy, .ref wce, .ref wiw, .ref wli, .ref wha, .ref wwt, .int (nI nf), .ref wfy, .ref wfk, .int (nI nc), .ref wem, .ref wna, .ref wpl, .ref whs, .long lk, .int (nI ks), .ref wk1, .ref wk2, .ref wk3])) := k403 _ _ a398 
                        have a405 : f394 wli = some (.inl (cy 0, 60, .inl gl)) := k397 _ _ a393 
                        have a406 : f401 wli = some (.inl (cy 0, 60, .inl gl)) := k403 _ _ a405 
                        refine z_callVi (As := [.long (gc (16 * nn + kx))]) C hz hS hA hl (k_X8_likeOf l D cy f401 o wev wnb wki wmy wce wiw wli wha wwt wfy wfk wem wna wpl whs wk1 wk2 wk3 u1 u2 u3 nl nn nf nc lk ks gl (gc (16 * nn + kx)) a404 a406 (z_r60 (by omega) (hrf hkn kx (by omega)))) zyX8_likeOf mMX8_94 a404 zl8 rfl rfl (Nat.le_of_ble_eq_true rfl) ⟨Nat.le_of_ble_eq_true rfl, Nat.le_of_ble_eq_true rfl⟩ ⟨Nat.le_of_ble_eq_true rfl, Nat.le_of_ble_eq_true rfl⟩ dX8_leastLike_99 (fun r409 f407 H locs h408 hz hS => ?_)
                        have k410 := h408
                        refine lv_icmp_ne (tgt := 109) hx hb dX8_leastLike_102 (by decide) (fun c411 => ?_) (fun c411 => ?_)
                        · refine lv_iconst (v := 0) hx hb dX8_leastLike_109 (by decide) ?_
                          refine lv_goto (tgt := 136) hx hb dX8_leastLike_110 (by decide) ?_
                          refine lv_istore_n (lv' := [(3, .int 0), (0, .ref o), (1, .int (nI nn)), (2, .int (nI oo)), (4, .int (nI kx))]) hx hb dX8_leastLike_136 rfl hl (by decide) rfl (fun ls hl => ?_)
                          refine lv_iinc (v := nI (kx + 1)) (lv' := [(4, .int (nI (kx + 1))), (3, .int 0), (0, .ref o), (1, .int (nI nn)), (2, .int (nI oo))]) hx hb dX8_leastLike_137 hl (k := 4) rfl (nI_1 kx) (by decide) rfl (fun ls hl => ?_)
                          refine lv_goto (tgt := 57) hx hb dX8_leastLike_140 (by decide) ?_
                          have a412 : f407 o = some (.inr (8, [.int u1, .int u2, .int u3, .ref wev, .int (nI nl), .ref wnb, .int (nI nn), .ref wki, .ref wmy, .ref wce, .ref wiw, .ref wli, .ref wha, .ref wwt, .int (nI nf), .ref wfy, .ref wfk, .int (nI nc), .ref wem, .ref wna, .ref wpl, .ref whs, .long lk, .int (nI ks), .ref wk1, .ref wk2, .ref wk3])) := k410 _ _ a404 
                          have a413 : f349 wki = some (.inl (cy 0, 60, .inl gk)) := k351 _ _ a339 
                          have a414 : f388 wki = some (.inl (cy 0, 60, .inl gk)) := k390 _ _ a413 
                          have a415 : f394 wki = some (.inl (cy 0, 60, .inl gk)) := k397 _ _ a414 
                          have a416 : f401 wki = some (.inl (cy 0, 60, .inl gk)) := k403 _ _ a415 
                          have a417 : f407 wki = some (.inl (cy 0, 60, .inl gk)) := k410 _ _ a416 
                          have a418 : f349 wmy = some (.inl (cy 0, 60, .inl gm)) := k351 _ _ a340 
                          have a419 : f388 wmy = some (.inl (cy 0, 60, .inl gm)) := k390 _ _ a418 
                          have a420 : f394 wmy = some (.inl (cy 0, 60, .inl gm)) := k397 _ _ a419 
                          have a421 : f401 wmy = some (.inl (cy 0, 60, .inl gm)) := k403 _ _ a420 
                          have a422 : f407 wmy = some (.inl (cy 0, 60, .inl gm)) := k410 _ _ a421 
                          have a423 : f401 wce = some (.inl (cy 1, 960, .inr (.inl gc))) := k403 _ _ a400 
                          have a424 : f407 wce = some (.inl (cy 1, 960, .inr (.inl gc))) := k410 _ _ a423 
                          have a425 : f407 wli = some (.inl (cy 0, 60, .inl gl)) := k410 _ _ a406 
                          exact ih_336 (kx + 1) 0 _ _ _ _ (by omega) (by omega) (fun _ => hlo (by assumption)) (fun _ => hke (by assumption)) a412 a417 a422 a424 a425 (by
                                intro b e hb 
                                have hb1 : fL335 b = some e := k337 b e hb 
                                have hb2 : f349 b = some e := k351 b e hb1 
                                have hb3 : f388 b = some e := k390 b e hb2 
                                have hb4 : f394 b = some e := k397 b e hb3 
                                have hb5 : f401 b = some e := k403 b e hb4 
                                have hb6 : f407 b = some e := k410 b e hb5 
                                exact hb6) hz hS (lv_sub hl [2, 3, 4, 1, 0] rfl)
                        · refine lv_iconst (v := 1) hx hb dX8_leastLike_105 (by decide) ?_
                          refine lv_goto (tgt := 136) hx hb dX8_leastLike_106 (by decide) ?_
                          refine lv_istore_n (lv' := [(3, .int 1), (0, .ref o), (1, .int (nI nn)), (2, .int (nI oo)), (4, .int (nI kx))]) hx hb dX8_leastLike_136 rfl hl (by decide) rfl (fun ls hl => ?_)
                          refine lv_iinc (v := nI (kx + 1)) (lv' := [(4, .int (nI (kx + 1))), (3, .int 1), (0, .ref o), (1, .int (nI nn)), (2, .int (nI oo))]) hx hb dX8_leastLike_137 hl (k := 4) rfl (nI_1 kx) (by decide) rfl (fun ls hl => ?_)
                          refine lv_goto (tgt := 57) hx hb dX8_leastLike_140 (by decide) ?_
                          have a426 : f407 o = some (.inr (8, [.int u1, .int u2, .int u3, .ref wev, .int (nI nl), .ref wnb, .int (nI nn), .ref wki, .ref wmy, .ref wce, .ref wiw, .ref wli, .ref wha, .ref wwt, .int (nI nf), .ref wfy, .ref wfk, .int (nI nc), .ref wem, .ref wna, .ref wpl, .ref whs, .long lk, .int (nI ks), .ref wk1, .ref wk2, .ref wk3])) := k410 _ _ a404 
                          have a427 : f349 wki = some (.inl (cy 0, 60, .inl gk)) := k351 _ _ a339 
                          have a428 : f388 wki = some (.inl (cy 0, 60, .inl gk)) := k390 _ _ a427 
                          have a429 : f394 wki = some (.inl (cy 0, 60, .inl gk)) := k397 _ _ a428 
                          have a430 : f401 wki = some (.inl (cy 0, 60, .inl gk)) := k403 _ _ a429 
                          have a431 : f407 wki = some (.inl (cy 0, 60, .inl gk)) := k410 _ _ a430 
                          have a432 : f349 wmy = some (.inl (cy 0, 60, .inl gm)) := k351 _ _ a340 
                          have a433 : f388 wmy = some (.inl (cy 0, 60, .inl gm)) := k390 _ _ a432 
                          have a434 : f394 wmy = some (.inl (cy 0, 60, .inl gm)) := k397 _ _ a433 
                          have a435 : f401 wmy = some (.inl (cy 0, 60, .inl gm)) := k403 _ _ a434 
                          have a436 : f407 wmy = some (.inl (cy 0, 60, .inl gm)) := k410 _ _ a435 
                          have a437 : f401 wce = some (.inl (cy 1, 960, .inr (.inl gc))) := k403 _ _ a400 
                          have a438 : f407 wce = some (.inl (cy 1, 960, .inr (.inl gc))) := k410 _ _ a437 
                          have a439 : f407 wli = some (.inl (cy 0, 60, .inl gl)) := k410 _ _ a406 
                          exact ih_336 (kx + 1) 1 _ _ _ _ (by omega) (by omega) (fun _ => hlo (by assumption)) (fun _ => hke (by assumption)) a426 a431 a436 a438 a439 (by
                                intro b e hb 
                                have hb1 : fL335 b = some e := k337 b e hb 
                                have hb2 : f349 b = some e := k351 b e hb1 
                                have hb3 : f388 b = some e := k390 b e hb2 
                                have hb4 : f394 b = some e := k397 b e hb3 
                                have hb5 : f401 b = some e := k403 b e hb4 
                                have hb6 : f407 b = some e := k410 b e hb5 
                                exact hb6) hz hS (lv_sub hl [2, 3, 4, 1, 0] rfl)
              exact lp334 (t - 0 + 1) 0 1 _ _ _ _ (Nat.lt_succ_self _) (by omega) (fun _ => (nI_eq (by have h8 := (hMP oo (by omega)).2.1; omega) (by omega)).mp ((hMP oo (by omega)).1.symm.trans c227)) (fun _ => c11) a5 a6 a7 a8 a9 (fun b e hb => hb) hz hS (lv_sub hl [2, 3, 4, 1, 0] rfl)
  exact lp1 (nn - 0 + 1) 0 _ _ _ _ (Nat.lt_succ_self _) (by omega) p0 p1 p2 p3 p4 (fun b e hb => hb) hz hS (lv_sub hl [1, 2, 0] rfl)
