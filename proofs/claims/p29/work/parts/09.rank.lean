abbrev rmX5_rank : Room := { frames := 4, cells := 0, slots := 0, locals := 95 }
set_option maxHeartbeats 4000000 in
set_option maxRecDepth 100000 in
theorem k_X5_rank (l : Launch) (D : va_G) (cy : Nat → ClassId) (f : zM) (h : Nat) (al : Nat) (ra : Nat) (ga : Nat → Option Nat) (gr : Nat → Option Nat) (nn : Nat) (fg : Nat → Nat) (pt : Nat → Nat) (kd : Nat → Int32) (ln : Nat → Nat) (pp : Nat → Nat → Int64) (wg : Nat → Int64) (wd : Nat → Int32) (hs : Nat → Int32) (bf : Nat → Int32) (q : Nat) (kdq : Int32) (pa : Nat) (wgq : Int64) (wdq : Int32) (nuq : Int32) (hsq : Int32) (bfq : Int32) (t : Nat) (gp : Nat → Int64) (p0 : f h = some (.inr (5, [.ref al, .ref ra, .int (nI nn)]))) (p1 : f al = some (.inl (cy 3, 60, .inr (.inr (.inr (.inr ga)))))) (p2 : f ra = some (.inl (cy 3, 60, .inr (.inr (.inr (.inr gr)))))) (p3 : f q = some (.inr (4, [.int kdq, .ref pa, .long wgq, .int wdq, .int nuq, .int hsq, .int bfq]))) (p4 : f pa = some (.inl (cy 1, t, .inr (.inl gp)))) (hF : ∀ i9 : Nat, i9 < nn → f (fg i9) = some (.inr (4, [.int (kd i9), .ref (pt i9), .long (wg i9), .int (wd i9), .int (nI i9), .int (hs i9), .int (bf i9)]))) (hP : ∀ i9 : Nat, i9 < nn → f (pt i9) = some (.inl (cy 1, (ln i9), .inr (.inl (pp i9))))) (hn59 : nn < 60) (hga : ∀ i, i < nn → ga i = some (fg i)) (hgr : ∀ k, k < nn → ∃ j, j < nn ∧ gr k = some (fg j)) (hln : ∀ i, i < nn → ln i ≤ 15) (hk5 : ∀ i, i < nn → kd i = 5 → 3 ≤ ln i) (hfi : ∀ i, i < nn → ∀ j, j < nn → fg i = fg j → i = j) (hq : ∀ j, j < nn → fg j ≠ q) (ht : t ≤ 15) (h5q : kdq = 5 → 3 ≤ t) (har : al ≠ ra) : zCv l D cy yX5_rank cX5_rank 5 none rmX5_rank [.ref h, .ref q] f (fun (f1 : zM) => ∃ (bq : Int32) (gr1 : Nat → Option Nat) (bf1 : Nat → Int32), (∀ k, k < nn + 1 → gr1 k = some q ∨ ∃ j, j < nn ∧ gr1 k = some (fg j)) ∧ f1 q = some (.inr (4, [.int kdq, .ref pa, .long wgq, .int wdq, .int nuq, .int hsq, .int bq])) ∧ f1 ra = some (.inl (cy 3, 60, .inr (.inr (.inr (.inr gr1))))) ∧ (∀ i9 : Nat, i9 < nn → f1 (fg i9) = some (.inr (4, [.int (kd i9), .ref (pt i9), .long (wg i9), .int (wd i9), .int (nI i9), .int (hs i9), .int (bf1 i9)]))) ∧ (∀ (b : Nat) (e : va_E), f b = some e → b ≠ q → b ≠ ra → (∀ j9 : Nat, j9 < nn → b ≠ fg j9) → f1 b = some e)) := by
  intro sz
  refine z_body (by decide +kernel) (Nat.le_of_ble_eq_true rfl) ?_
  intro p e s m below meth c ls C hr hin hsz hz hl
  subst hsz
  have hx := C.1
  have hb := C.2.1
  have hA : ∀ q, s.heap.size ≤ q → zA f s.heap.size q := fun q h => Or.inr h
  have hS : va_S (zA f s.heap.size) s.heap s.heap [] := va_S.rf
  have hl : lv_has ls 5 [(0, .ref h), (1, .ref q)] := hl
  refine lv_aload_n hx hb dX5_rank_0 rfl (lv_at hl 0 rfl) ?_
  refine z_get (v := .int (nI nn)) C hz p0 zl5 mFX5_20 (by decide) rfl dX5_rank_1 ?_
  refine lv_istore_n (lv' := [(2, .int (nI nn)), (0, .ref h), (1, .ref q)]) hx hb dX5_rank_4 rfl hl (by decide) rfl (fun ls hl => ?_)
  have lp1 : ∀ (n : Nat) (i : Nat) (fL2 : zM) (H : Heap) (locs : List Loc) (ls : Array Slot), (i) < n → (i ≤ nn) → fL2 h = some (.inr (5, [.ref al, .ref ra, .int (nI nn)])) → fL2 al = some (.inl (cy 3, 60, .inr (.inr (.inr (.inr ga))))) → fL2 ra = some (.inl (cy 3, 60, .inr (.inr (.inr (.inr gr))))) → fL2 q = some (.inr (4, [.int kdq, .ref pa, .long wgq, .int wdq, .int nuq, .int hsq, .int bfq])) → fL2 pa = some (.inl (cy 1, t, .inr (.inl gp))) → (∀ i9 : Nat, i9 < nn → fL2 (fg i9) = some (.inr (4, [.int (kd i9), .ref (pt i9), .long (wg i9), .int (wd i9), .int (nI i9), .int (hs i9), .int (bf i9)]))) → (∀ i9 : Nat, i9 < nn → fL2 (pt i9) = some (.inl (cy 1, (ln i9), .inr (.inl (pp i9))))) → (∀ (b : Nat) (e : va_E), f b = some e → fL2 b = some e) → zH D (zA f s.heap.size) fL2 H → va_S (zA f s.heap.size) s.heap H locs → lv_has ls 5 [(0, .ref h), (1, .ref q), (2, .int (nI i))] → W p l e rmX5_rank s m ([.ref h, .ref q] : List Value).toArray below meth c H locs 0 0 (MQ below (va_Qv (fun (f1 : zM) => ∃ (bq : Int32) (gr1 : Nat → Option Nat) (bf1 : Nat → Int32), (∀ k, k < nn + 1 → gr1 k = some q ∨ ∃ j, j < nn ∧ gr1 k = some (fg j)) ∧ f1 q = some (.inr (4, [.int kdq, .ref pa, .long wgq, .int wdq, .int nuq, .int hsq, .int bq])) ∧ f1 ra = some (.inl (cy 3, 60, .inr (.inr (.inr (.inr gr1))))) ∧ (∀ i9 : Nat, i9 < nn → f1 (fg i9) = some (.inr (4, [.int (kd i9), .ref (pt i9), .long (wg i9), .int (wd i9), .int (nI i9), .int (hs i9), .int (bf1 i9)]))) ∧ (∀ (b : Nat) (e : va_E), f b = some e → b ≠ q → b ≠ ra → (∀ j9 : Nat, j9 < nn → b ≠ fg j9) → f1 b = some e)) (zB D f s.heap.size) (zA f s.heap.size)) ([.ref h, .ref q] : List Value).toArray s rmX5_rank.cells rmX5_rank.slots (zA f s.heap.size)) (F0 m 5 ls []) := by
    intro n
    induction n with
    | zero => intro i fL2 H locs ls hmz; exact absurd hmz (Nat.not_lt_zero _)
    | succ n ih =>
      intro i fL2 H locs ls hmz hi a4 a5 a6 a7 a8 F9 F10 k3 hz hS hl
      refine lv_iload_n hx hb dX5_rank_5 rfl (lv_at hl 2 rfl) ?_
      refine lv_if_le (tgt := 31) hx hb dX5_rank_6 (by decide) (fun c11 => ?_) (fun c11 => ?_)
      · replace c11 : (i ≤ 0) := (nI_leI (a := i) (b := 0) (by omega) (by omega)).mp c11
        refine lv_iload_n hx hb dX5_rank_31 rfl (lv_at hl 2 rfl) ?_
        refine lv_if_le (tgt := 55) hx hb dX5_rank_32 (by decide) (fun c12 => ?_) (fun c12 => ?_)
        · replace c12 : (i ≤ 0) := (nI_leI (a := i) (b := 0) (by omega) (by omega)).mp c12
          refine lv_iconst (v := 0) hx hb dX5_rank_55 (by decide) ?_
          refine lv_istore_n (lv' := [(3, .int 0), (0, .ref h), (1, .ref q), (2, .int (nI i))]) hx hb dX5_rank_56 rfl hl (by decide) rfl (fun ls hl => ?_)
          refine lv_aload_n hx hb dX5_rank_57 rfl (lv_at hl 2 rfl) ?_
          refine lv_iload_n hx hb dX5_rank_58 rfl (lv_at hl 0 rfl) ?_
          refine lv_if_eq (tgt := 76) hx hb dX5_rank_59 (by decide) (fun c13 => ?_) (fun c13 => ?_)
          rotate_left
          · exact absurd c13 (by decide)
          refine lv_iload_n hx hb dX5_rank_76 rfl (lv_at hl 3 rfl) ?_
          refine z_putN (fs' := [.int kdq, .ref pa, .long wgq, .int wdq, .int nuq, .int hsq, .int (nI i)]) C hz hS a7 zl4 mFNX5_69 (by decide) rfl rfl rfl (Nat.le_of_ble_eq_true rfl) rfl dX5_rank_77 (fun H locs f14 a15 k16 hz hS => ?_)
          refine lv_aload_n hx hb dX5_rank_80 rfl (lv_at hl 1 rfl) ?_
          have a17 : f14 h = some (.inr (5, [.ref al, .ref ra, .int (nI nn)])) := (k16 _ (z_ne a4 a7 rfl)).trans a4
          refine z_get (v := .int (nI nn)) C hz a17 zl5 mFX5_20 (by decide) rfl dX5_rank_81 ?_
          refine lv_istore (lv' := [(4, .int (nI nn)), (3, .int 0), (0, .ref h), (1, .ref q), (2, .int (nI i))]) hx hb dX5_rank_84 hl (by decide) rfl (fun ls hl => ?_)
          have lp18 : ∀ (n : Nat) (kq : Nat) (grv : Nat → Option Nat) (bfv : Nat → Int32) (fL19 : zM) (H : Heap) (locs : List Loc) (ls : Array Slot), (kq) < n → (i ≤ kq) → (kq ≤ nn) → (∀ k', (k' < nn ∨ (kq < k' ∧ k' ≤ nn)) → ∃ j, j < nn ∧ grv k' = some (fg j)) → fL19 h = some (.inr (5, [.ref al, .ref ra, .int (nI nn)])) → fL19 q = some (.inr (4, [.int kdq, .ref pa, .long wgq, .int wdq, .int nuq, .int hsq, .int (nI i)])) → fL19 ra = some (.inl (cy 3, 60, .inr (.inr (.inr (.inr grv))))) → (∀ i9 : Nat, i9 < nn → fL19 (fg i9) = some (.inr (4, [.int (kd i9), .ref (pt i9), .long (wg i9), .int (wd i9), .int (nI i9), .int (hs i9), .int (bfv i9)]))) → (∀ (b : Nat) (e : va_E), f14 b = some e → b ≠ ra → (∀ j9 : Nat, j9 < nn → b ≠ fg j9) → fL19 b = some e) → zH D (zA f s.heap.size) fL19 H → va_S (zA f s.heap.size) s.heap H locs → lv_has ls 5 [(0, .ref h), (1, .ref q), (2, .int (nI i)), (4, .int (nI kq))] → W p l e rmX5_rank s m ([.ref h, .ref q] : List Value).toArray below meth c H locs 0 0 (MQ below (va_Qv (fun (f1 : zM) => ∃ (bq : Int32) (gr1 : Nat → Option Nat) (bf1 : Nat → Int32), (∀ k, k < nn + 1 → gr1 k = some q ∨ ∃ j, j < nn ∧ gr1 k = some (fg j)) ∧ f1 q = some (.inr (4, [.int kdq, .ref pa, .long wgq, .int wdq, .int nuq, .int hsq, .int bq])) ∧ f1 ra = some (.inl (cy 3, 60, .inr (.inr (.inr (.inr gr1))))) ∧ (∀ i9 : Nat, i9 < nn → f1 (fg i9) = some (.inr (4, [.int (kd i9), .ref (pt i9), .long (wg i9), .int (wd i9), .int (nI i9), .int (hs i9), .int (bf1 i9)]))) ∧ (∀ (b : Nat) (e : va_E), f b = some e → b ≠ q → b ≠ ra → (∀ j9 : Nat, j9 < nn → b ≠ fg j9) → f1 b = some e)) (zB D f s.heap.size) (zA f s.heap.size)) ([.ref h, .ref q] : List Value).toArray s rmX5_rank.cells rmX5_rank.slots (zA f s.heap.size)) (F0 m 86 ls []) := by
            intro n
            induction n with
            | zero => intro kq grv bfv fL19 H locs ls hmz; exact absurd hmz (Nat.not_lt_zero _)
            | succ n ih =>
              intro kq grv bfv fL19 H locs ls hmz hik hkn hgrv a21 a22 a23 F24 k20 hz hS hl
              refine lv_iload hx hb dX5_rank_86 (lv_at hl 3 rfl) ?_
              refine lv_iload_n hx hb dX5_rank_88 rfl (lv_at hl 2 rfl) ?_
              refine lv_icmp_le (tgt := 130) hx hb dX5_rank_89 (by decide) (fun c25 => ?_) (fun c25 => ?_)
              · replace c25 : (kq ≤ i) := (nI_leI (a := kq) (b := i) (by omega) (by omega)).mp c25
                refine lv_aload_n hx hb dX5_rank_130 rfl (lv_at hl 0 rfl) ?_
                refine z_get (v := .ref ra) C hz a21 zl5 mFX5_17 (by decide) rfl dX5_rank_131 ?_
                refine lv_iload_n hx hb dX5_rank_134 rfl (lv_at hl 2 rfl) ?_
                refine lv_aload_n hx hb dX5_rank_135 rfl (lv_at hl 1 rfl) ?_
                refine z_astq i C hz hS a23 rfl a22 zl4 rfl (by omega) (by omega) dX5_rank_136 (fun H locs f26 a27 k28 hz hS => ?_)
                have a29 : f26 q = some (.inr (4, [.int kdq, .ref pa, .long wgq, .int wdq, .int nuq, .int hsq, .int (nI i)])) := (k28 _ (z_ne a22 a23 rfl)).trans a22
                have F30 : ∀ i9 : Nat, i9 < nn → f26 (fg i9) = some (.inr (4, [.int (kd i9), .ref (pt i9), .long (wg i9), .int (wd i9), .int (nI i9), .int (hs i9), .int (bfv i9)])) := fun i9 h9 => (k28 _ (z_ne (F24 i9 h9) a23 rfl)).trans (F24 i9 h9)
                exact z_vret C hr hz hS ⟨(nI i), (va_up grv i (some q)), bfv, (z_rk hgrv (by omega) (by omega) (by omega)), a29, a27, F30, (by
                      intro b e hb n0 n1 n2
                      have hb0 : fL2 b = some e := k3 b e hb 
                      have hb1 : f14 b = some e := (k16 b n0).trans hb0
                      have hb2 : fL19 b = some e := k20 b e hb1 n1 n2
                      have hb3 : f26 b = some e := (k28 b n1).trans hb2
                      exact hb3)⟩ (Nat.le_of_ble_eq_true rfl) (Nat.le_of_ble_eq_true rfl) dX5_rank_137
              · replace c25 : ¬ (kq ≤ i) := fun h => c25 ((nI_leI (a := kq) (b := i) (by omega) (by omega)).mpr h)
                refine lv_aload_n hx hb dX5_rank_92 rfl (lv_at hl 0 rfl) ?_
                refine z_get (v := .ref ra) C hz a21 zl5 mFX5_17 (by decide) rfl dX5_rank_93 ?_
                refine lv_iload hx hb dX5_rank_96 (lv_at hl 3 rfl) ?_
                refine lv_aload_n hx hb dX5_rank_98 rfl (lv_at hl 0 rfl) ?_
                refine z_get (v := .ref ra) C hz a21 zl5 mFX5_17 (by decide) rfl dX5_rank_99 ?_
                refine lv_iload hx hb dX5_rank_102 (lv_at hl 3 rfl) ?_
                refine lv_iconst (v := 1) hx hb dX5_rank_104 (by decide) ?_
                refine lv_isub hx hb dX5_rank_105 ?_
                refine lv_topi (fun y31 e32 => ?_)
                obtain rfl : y31 = nI (kq - 1) := e32.trans (pk_sub (a := kq) (b := 1) (by omega))
                obtain ⟨j3, hj3, hgj3⟩ := hgrv (kq - 1) (Or.inl (by omega))
                refine z_aldq (kq - 1) C hz a23 rfl rfl (by omega) (by omega) dX5_rank_106 ?_
                rw [hgj3]
                refine W.eq (g2 := F0 m 107 ls [.ref (fg j3), .int (nI kq), .ref ra]) rfl ?_
                have a36 : fL19 (fg j3) = some (.inr (4, [.int (kd j3), .ref (pt j3), .long (wg j3), .int (wd j3), .int (nI j3), .int (hs j3), .int (bfv j3)])) := F24 j3 hj3
                refine z_astq kq C hz hS a23 rfl a36 zl4 rfl (by omega) (by omega) dX5_rank_107 (fun H locs f33 a34 k35 hz hS => ?_)
                refine lv_aload_n hx hb dX5_rank_108 rfl (lv_at hl 0 rfl) ?_
                have a37 : f33 h = some (.inr (5, [.ref al, .ref ra, .int (nI nn)])) := (k35 _ (z_ne a21 a23 rfl)).trans a21
                refine z_get (v := .ref ra) C hz a37 zl5 mFX5_17 (by decide) rfl dX5_rank_109 ?_
                refine lv_iload hx hb dX5_rank_112 (lv_at hl 3 rfl) ?_
                refine z_aldq kq C hz a34 rfl rfl (by omega) (by omega) dX5_rank_114 ?_
                rw [va_up_self]
                refine W.eq (g2 := F0 m 115 ls [.ref (fg j3)]) rfl ?_
                refine lv_dup hx hb dX5_rank_115 rfl ?_
                have a38 : f33 (fg j3) = some (.inr (4, [.int (kd j3), .ref (pt j3), .long (wg j3), .int (wd j3), .int (nI j3), .int (hs j3), .int (bfv j3)])) := (k35 _ (z_ne a36 a23 rfl)).trans a36
                refine z_getN (v := .int (bfv j3)) C hz a38 zl4 mFNX5_69 (by decide) rfl dX5_rank_116 ?_
                refine lv_iconst (v := 1) hx hb dX5_rank_119 (by decide) ?_
                refine lv_iadd hx hb dX5_rank_120 ?_
                refine z_putN (fs' := [.int (kd j3), .ref (pt j3), .long (wg j3), .int (wd j3), .int (nI j3), .int (hs j3), .int ((bfv j3) + 1)]) C hz hS a38 zl4 mFNX5_69 (by decide) rfl rfl rfl (Nat.le_of_ble_eq_true rfl) rfl dX5_rank_121 (fun H locs f39 a40 k41 hz hS => ?_)
                have F42 : ∀ i9 : Nat, i9 < nn → f33 (fg i9) = some (.inr (4, [.int (kd i9), .ref (pt i9), .long (wg i9), .int (wd i9), .int (nI i9), .int (hs i9), .int (bfv i9)])) := fun i9 h9 => (k35 _ (z_ne (F24 i9 h9) a23 rfl)).trans (F24 i9 h9)
                have F43 : ∀ i9 : Nat, i9 < nn → f39 (fg i9) = some (.inr (4, [.int (kd i9), .ref (pt i9), .long (wg i9), .int (wd i9), .int (nI i9), .int (hs i9), .int (va_up bfv j3 ((bfv j3) + 1) i9)])) := z_famW (T := fun i9 => .inr (4, [.int (kd i9), .ref (pt i9), .long (wg i9), .int (wd i9), .int (nI i9), .int (hs i9), .int (bfv i9)])) (T' := fun i9 => .inr (4, [.int (kd i9), .ref (pt i9), .long (wg i9), .int (wd i9), .int (nI i9), .int (hs i9), .int (va_up bfv j3 ((bfv j3) + 1) i9)])) F42 hj3 (by simp only [va_up_self]; exact a40) k41 (fun i9 h9 => by simp only [va_up_ne _ _ h9]) (fun i9 h9 => hfi i9 h9 j3 hj3)
                refine lv_iinc (v := nI (kq - 1)) (lv' := [(4, .int (nI (kq - 1))), (0, .ref h), (1, .ref q), (2, .int (nI i))]) hx hb dX5_rank_124 hl (k := 3) rfl (z_dec (by omega)) (by decide) rfl (fun ls hl => ?_)
                refine lv_goto (tgt := 86) hx hb dX5_rank_127 (by decide) ?_
                have a44 : f39 ra = some (.inl (cy 3, 60, .inr (.inr (.inr (.inr (va_up grv kq (some (fg j3)))))))) := (k41 _ (z_ne a34 a38 rfl)).trans a34
                have a45 : f33 q = some (.inr (4, [.int kdq, .ref pa, .long wgq, .int wdq, .int nuq, .int hsq, .int (nI i)])) := (k35 _ (z_ne a22 a23 rfl)).trans a22
                have a46 : f39 q = some (.inr (4, [.int kdq, .ref pa, .long wgq, .int wdq, .int nuq, .int hsq, .int (nI i)])) := (k41 _ ((fun j9 h8 => Ne.symm (hq j9 h8)) j3 hj3)).trans a45
                have a47 : f39 h = some (.inr (5, [.ref al, .ref ra, .int (nI nn)])) := (k41 _ (z_ne a37 a38 rfl)).trans a37
                exact ih (kq - 1) (va_up grv kq (some (fg j3))) (va_up bfv j3 ((bfv j3) + 1)) _ _ _ _ (by omega) (by omega) (by omega) (z_shift hgrv (by omega) hj3) a47 a46 a44 F43 (by
                      intro b e hb n0 n1
                      have hb2 : fL19 b = some e := k20 b e hb n0 n1
                      have hb3 : f33 b = some e := (k35 b n0).trans hb2
                      have hb4 : f39 b = some e := (k41 b (n1 j3 hj3)).trans hb3
                      exact hb4) hz hS (lv_sub hl [1, 2, 3, 0] rfl)
          have a48 : f14 ra = some (.inl (cy 3, 60, .inr (.inr (.inr (.inr gr))))) := (k16 _ (z_ne a6 a7 rfl)).trans a6
          have F49 : ∀ i9 : Nat, i9 < nn → f14 (fg i9) = some (.inr (4, [.int (kd i9), .ref (pt i9), .long (wg i9), .int (wd i9), .int (nI i9), .int (hs i9), .int (bf i9)])) := fun i9 h9 => (k16 _ (hq i9 h9)).trans (F9 i9 h9)
          exact lp18 (nn + 1) nn gr bf _ _ _ _ (Nat.lt_succ_self _) (by omega) (by omega) (fun k' h' => hgr k' (by omega)) a17 a15 a48 F49 (fun b e hb n0 n1 => hb) hz hS (lv_sub hl [2, 3, 4, 0] rfl)
        · replace c12 : ¬ (i ≤ 0) := fun h => c12 ((nI_leI (a := i) (b := 0) (by omega) (by omega)).mpr h)
          refine lv_aload_n hx hb dX5_rank_35 rfl (lv_at hl 0 rfl) ?_
          refine lv_aload_n hx hb dX5_rank_36 rfl (lv_at hl 0 rfl) ?_
          refine z_get (v := .ref ra) C hz a4 zl5 mFX5_17 (by decide) rfl dX5_rank_37 ?_
          refine lv_iload_n hx hb dX5_rank_40 rfl (lv_at hl 2 rfl) ?_
          refine lv_iconst (v := 1) hx hb dX5_rank_41 (by decide) ?_
          refine lv_isub hx hb dX5_rank_42 ?_
          refine lv_topi (fun y50 e51 => ?_)
          obtain rfl : y50 = nI (i - 1) := e51.trans (pk_sub (a := i) (b := 1) (by omega))
          obtain ⟨j2, hj2, hgj2⟩ := hgr (i - 1) (by omega)
          refine z_aldq (i - 1) C hz a6 rfl rfl (by omega) (by omega) dX5_rank_43 ?_
          rw [hgj2]
          refine W.eq (g2 := F0 m 44 ls [.ref (fg j2), .ref h]) rfl ?_
          refine lv_aload_n hx hb dX5_rank_44 rfl (lv_at hl 1 rfl) ?_
          have a52 : fL2 (fg j2) = some (.inr (4, [.int (kd j2), .ref (pt j2), .long (wg j2), .int (wd j2), .int (nI j2), .int (hs j2), .int (bf j2)])) := F9 j2 hj2
          have a53 : fL2 (pt j2) = some (.inl (cy 1, (ln j2), .inr (.inl (pp j2)))) := F10 j2 hj2
          refine z_callVi (As := [.ref (fg j2), .ref q]) C hz hS hA hl (k_X5_compare l D cy fL2 h al ra ga nn fg pt kd ln pp wg wd hs bf (fg j2) (kd j2) (pt j2) (wg j2) (wd j2) (nI j2) (hs j2) (bf j2) (ln j2) (pp j2) q kdq pa wgq wdq nuq hsq bfq t gp a4 a5 a52 a7 a53 a8 F9 (by omega) hga (by have h9 := hln j2 hj2; omega) (by omega) (hk5 j2 hj2) h5q) zyX5_compare mMX5_65 a4 zl5 rfl rfl (Nat.le_of_ble_eq_true rfl) ⟨Nat.le_of_ble_eq_true rfl, Nat.le_of_ble_eq_true rfl⟩ ⟨Nat.le_of_ble_eq_true rfl, Nat.le_of_ble_eq_true rfl⟩ dX5_rank_45 (fun r56 f54 H locs h55 hz hS => ?_)
          have k57 := h55
          refine lv_if_ne (tgt := 55) hx hb dX5_rank_48 (by decide) (fun c58 => ?_) (fun c58 => ?_)
          · refine lv_iconst (v := 0) hx hb dX5_rank_55 (by decide) ?_
            refine lv_istore_n (lv' := [(3, .int 0), (0, .ref h), (1, .ref q), (2, .int (nI i))]) hx hb dX5_rank_56 rfl hl (by decide) rfl (fun ls hl => ?_)
            refine lv_aload_n hx hb dX5_rank_57 rfl (lv_at hl 2 rfl) ?_
            refine lv_iload_n hx hb dX5_rank_58 rfl (lv_at hl 0 rfl) ?_
            refine lv_if_eq (tgt := 76) hx hb dX5_rank_59 (by decide) (fun c59 => ?_) (fun c59 => ?_)
            rotate_left
            · exact absurd c59 (by decide)
            refine lv_iload_n hx hb dX5_rank_76 rfl (lv_at hl 3 rfl) ?_
            have a60 : f54 q = some (.inr (4, [.int kdq, .ref pa, .long wgq, .int wdq, .int nuq, .int hsq, .int bfq])) := k57 _ _ a7 
            refine z_putN (fs' := [.int kdq, .ref pa, .long wgq, .int wdq, .int nuq, .int hsq, .int (nI i)]) C hz hS a60 zl4 mFNX5_69 (by decide) rfl rfl rfl (Nat.le_of_ble_eq_true rfl) rfl dX5_rank_77 (fun H locs f61 a62 k63 hz hS => ?_)
            refine lv_aload_n hx hb dX5_rank_80 rfl (lv_at hl 1 rfl) ?_
            have a64 : f54 h = some (.inr (5, [.ref al, .ref ra, .int (nI nn)])) := k57 _ _ a4 
            have a65 : f61 h = some (.inr (5, [.ref al, .ref ra, .int (nI nn)])) := (k63 _ (z_ne a64 a60 rfl)).trans a64
            refine z_get (v := .int (nI nn)) C hz a65 zl5 mFX5_20 (by decide) rfl dX5_rank_81 ?_
            refine lv_istore (lv' := [(4, .int (nI nn)), (3, .int 0), (0, .ref h), (1, .ref q), (2, .int (nI i))]) hx hb dX5_rank_84 hl (by decide) rfl (fun ls hl => ?_)
            have lp66 : ∀ (n : Nat) (kq : Nat) (grv : Nat → Option Nat) (bfv : Nat → Int32) (fL67 : zM) (H : Heap) (locs : List Loc) (ls : Array Slot), (kq) < n → (i ≤ kq) → (kq ≤ nn) → (∀ k', (k' < nn ∨ (kq < k' ∧ k' ≤ nn)) → ∃ j, j < nn ∧ grv k' = some (fg j)) → fL67 h = some (.inr (5, [.ref al, .ref ra, .int (nI nn)])) → fL67 q = some (.inr (4, [.int kdq, .ref pa, .long wgq, .int wdq, .int nuq, .int hsq, .int (nI i)])) → fL67 ra = some (.inl (cy 3, 60, .inr (.inr (.inr (.inr grv))))) → (∀ i9 : Nat, i9 < nn → fL67 (fg i9) = some (.inr (4, [.int (kd i9), .ref (pt i9), .long (wg i9), .int (wd i9), .int (nI i9), .int (hs i9), .int (bfv i9)]))) → (∀ (b : Nat) (e : va_E), f61 b = some e → b ≠ ra → (∀ j9 : Nat, j9 < nn → b ≠ fg j9) → fL67 b = some e) → zH D (zA f s.heap.size) fL67 H → va_S (zA f s.heap.size) s.heap H locs → lv_has ls 5 [(0, .ref h), (1, .ref q), (2, .int (nI i)), (4, .int (nI kq))] → W p l e rmX5_rank s m ([.ref h, .ref q] : List Value).toArray below meth c H locs 0 0 (MQ below (va_Qv (fun (f1 : zM) => ∃ (bq : Int32) (gr1 : Nat → Option Nat) (bf1 : Nat → Int32), (∀ k, k < nn + 1 → gr1 k = some q ∨ ∃ j, j < nn ∧ gr1 k = some (fg j)) ∧ f1 q = some (.inr (4, [.int kdq, .ref pa, .long wgq, .int wdq, .int nuq, .int hsq, .int bq])) ∧ f1 ra = some (.inl (cy 3, 60, .inr (.inr (.inr (.inr gr1))))) ∧ (∀ i9 : Nat, i9 < nn → f1 (fg i9) = some (.inr (4, [.int (kd i9), .ref (pt i9), .long (wg i9), .int (wd i9), .int (nI i9), .int (hs i9), .int (bf1 i9)]))) ∧ (∀ (b : Nat) (e : va_E), f b = some e → b ≠ q → b ≠ ra → (∀ j9 : Nat, j9 < nn → b ≠ fg j9) → f1 b = some e)) (zB D f s.heap.size) (zA f s.heap.size)) ([.ref h, .ref q] : List Value).toArray s rmX5_rank.cells rmX5_rank.slots (zA f s.heap.size)) (F0 m 86 ls []) := by
              intro n
              induction n with
              | zero => intro kq grv bfv fL67 H locs ls hmz; exact absurd hmz (Nat.not_lt_zero _)
              | succ n ih =>
                intro kq grv bfv fL67 H locs ls hmz hik hkn hgrv a69 a70 a71 F72 k68 hz hS hl
                refine lv_iload hx hb dX5_rank_86 (lv_at hl 3 rfl) ?_
                refine lv_iload_n hx hb dX5_rank_88 rfl (lv_at hl 2 rfl) ?_
                refine lv_icmp_le (tgt := 130) hx hb dX5_rank_89 (by decide) (fun c73 => ?_) (fun c73 => ?_)
                · replace c73 : (kq ≤ i) := (nI_leI (a := kq) (b := i) (by omega) (by omega)).mp c73
                  refine lv_aload_n hx hb dX5_rank_130 rfl (lv_at hl 0 rfl) ?_
                  refine z_get (v := .ref ra) C hz a69 zl5 mFX5_17 (by decide) rfl dX5_rank_131 ?_
                  refine lv_iload_n hx hb dX5_rank_134 rfl (lv_at hl 2 rfl) ?_
                  refine lv_aload_n hx hb dX5_rank_135 rfl (lv_at hl 1 rfl) ?_
                  refine z_astq i C hz hS a71 rfl a70 zl4 rfl (by omega) (by omega) dX5_rank_136 (fun H locs f74 a75 k76 hz hS => ?_)
                  have a77 : f74 q = some (.inr (4, [.int kdq, .ref pa, .long wgq, .int wdq, .int nuq, .int hsq, .int (nI i)])) := (k76 _ (z_ne a70 a71 rfl)).trans a70
                  have F78 : ∀ i9 : Nat, i9 < nn → f74 (fg i9) = some (.inr (4, [.int (kd i9), .ref (pt i9), .long (wg i9), .int (wd i9), .int (nI i9), .int (hs i9), .int (bfv i9)])) := fun i9 h9 => (k76 _ (z_ne (F72 i9 h9) a71 rfl)).trans (F72 i9 h9)
                  exact z_vret C hr hz hS ⟨(nI i), (va_up grv i (some q)), bfv, (z_rk hgrv (by omega) (by omega) (by omega)), a77, a75, F78, (by
                        intro b e hb n0 n1 n2
                        have hb0 : fL2 b = some e := k3 b e hb 
                        have hb1 : f54 b = some e := k57 b e hb0 
                        have hb2 : f61 b = some e := (k63 b n0).trans hb1
                        have hb3 : fL67 b = some e := k68 b e hb2 n1 n2
                        have hb4 : f74 b = some e := (k76 b n1).trans hb3
                        exact hb4)⟩ (Nat.le_of_ble_eq_true rfl) (Nat.le_of_ble_eq_true rfl) dX5_rank_137
                · replace c73 : ¬ (kq ≤ i) := fun h => c73 ((nI_leI (a := kq) (b := i) (by omega) (by omega)).mpr h)
                  refine lv_aload_n hx hb dX5_rank_92 rfl (lv_at hl 0 rfl) ?_
                  refine z_get (v := .ref ra) C hz a69 zl5 mFX5_17 (by decide) rfl dX5_rank_93 ?_
                  refine lv_iload hx hb dX5_rank_96 (lv_at hl 3 rfl) ?_
                  refine lv_aload_n hx hb dX5_rank_98 rfl (lv_at hl 0 rfl) ?_
                  refine z_get (v := .ref ra) C hz a69 zl5 mFX5_17 (by decide) rfl dX5_rank_99 ?_
                  refine lv_iload hx hb dX5_rank_102 (lv_at hl 3 rfl) ?_
                  refine lv_iconst (v := 1) hx hb dX5_rank_104 (by decide) ?_
                  refine lv_isub hx hb dX5_rank_105 ?_
                  refine lv_topi (fun y79 e80 => ?_)
                  obtain rfl : y79 = nI (kq - 1) := e80.trans (pk_sub (a := kq) (b := 1) (by omega))
                  obtain ⟨j3, hj3, hgj3⟩ := hgrv (kq - 1) (Or.inl (by omega))
                  refine z_aldq (kq - 1) C hz a71 rfl rfl (by omega) (by omega) dX5_rank_106 ?_
                  rw [hgj3]
                  refine W.eq (g2 := F0 m 107 ls [.ref (fg j3), .int (nI kq), .ref ra]) rfl ?_
                  have a84 : fL67 (fg j3) = some (.inr (4, [.int (kd j3), .ref (pt j3), .long (wg j3), .int (wd j3), .int (nI j3), .int (hs j3), .int (bfv j3)])) := F72 j3 hj3
                  refine z_astq kq C hz hS a71 rfl a84 zl4 rfl (by omega) (by omega) dX5_rank_107 (fun H locs f81 a82 k83 hz hS => ?_)
                  refine lv_aload_n hx hb dX5_rank_108 rfl (lv_at hl 0 rfl) ?_
                  have a85 : f81 h = some (.inr (5, [.ref al, .ref ra, .int (nI nn)])) := (k83 _ (z_ne a69 a71 rfl)).trans a69
                  refine z_get (v := .ref ra) C hz a85 zl5 mFX5_17 (by decide) rfl dX5_rank_109 ?_
                  refine lv_iload hx hb dX5_rank_112 (lv_at hl 3 rfl) ?_
                  refine z_aldq kq C hz a82 rfl rfl (by omega) (by omega) dX5_rank_114 ?_
                  rw [va_up_self]
                  refine W.eq (g2 := F0 m 115 ls [.ref (fg j3)]) rfl ?_
                  refine lv_dup hx hb dX5_rank_115 rfl ?_
                  have a86 : f81 (fg j3) = some (.inr (4, [.int (kd j3), .ref (pt j3), .long (wg j3), .int (wd j3), .int (nI j3), .int (hs j3), .int (bfv j3)])) := (k83 _ (z_ne a84 a71 rfl)).trans a84
                  refine z_getN (v := .int (bfv j3)) C hz a86 zl4 mFNX5_69 (by decide) rfl dX5_rank_116 ?_
                  refine lv_iconst (v := 1) hx hb dX5_rank_119 (by decide) ?_
                  refine lv_iadd hx hb dX5_rank_120 ?_
                  refine z_putN (fs' := [.int (kd j3), .ref (pt j3), .long (wg j3), .int (wd j3), .int (nI j3), .int (hs j3), .int ((bfv j3) + 1)]) C hz hS a86 zl4 mFNX5_69 (by decide) rfl rfl rfl (Nat.le_of_ble_eq_true rfl) rfl dX5_rank_121 (fun H locs f87 a88 k89 hz hS => ?_)
                  have F90 : ∀ i9 : Nat, i9 < nn → f81 (fg i9) = some (.inr (4, [.int (kd i9), .ref (pt i9), .long (wg i9), .int (wd i9), .int (nI i9), .int (hs i9), .int (bfv i9)])) := fun i9 h9 => (k83 _ (z_ne (F72 i9 h9) a71 rfl)).trans (F72 i9 h9)
                  have F91 : ∀ i9 : Nat, i9 < nn → f87 (fg i9) = some (.inr (4, [.int (kd i9), .ref (pt i9), .long (wg i9), .int (wd i9), .int (nI i9), .int (hs i9), .int (va_up bfv j3 ((bfv j3) + 1) i9)])) := z_famW (T := fun i9 => .inr (4, [.int (kd i9), .ref (pt i9), .long (wg i9), .int (wd i9), .int (nI i9), .int (hs i9), .int (bfv i9)])) (T' := fun i9 => .inr (4, [.int (kd i9), .ref (pt i9), .long (wg i9), .int (wd i9), .int (nI i9), .int (hs i9), .int (va_up bfv j3 ((bfv j3) + 1) i9)])) F90 hj3 (by simp only [va_up_self]; exact a88) k89 (fun i9 h9 => by simp only [va_up_ne _ _ h9]) (fun i9 h9 => hfi i9 h9 j3 hj3)
                  refine lv_iinc (v := nI (kq - 1)) (lv' := [(4, .int (nI (kq - 1))), (0, .ref h), (1, .ref q), (2, .int (nI i))]) hx hb dX5_rank_124 hl (k := 3) rfl (z_dec (by omega)) (by decide) rfl (fun ls hl => ?_)
                  refine lv_goto (tgt := 86) hx hb dX5_rank_127 (by decide) ?_
                  have a92 : f87 ra = some (.inl (cy 3, 60, .inr (.inr (.inr (.inr (va_up grv kq (some (fg j3)))))))) := (k89 _ (z_ne a82 a86 rfl)).trans a82
                  have a93 : f81 q = some (.inr (4, [.int kdq, .ref pa, .long wgq, .int wdq, .int nuq, .int hsq, .int (nI i)])) := (k83 _ (z_ne a70 a71 rfl)).trans a70
                  have a94 : f87 q = some (.inr (4, [.int kdq, .ref pa, .long wgq, .int wdq, .int nuq, .int hsq, .int (nI i)])) := (k89 _ ((fun j9 h8 => Ne.symm (hq j9 h8)) j3 hj3)).trans a93
                  have a95 : f87 h = some (.inr (5, [.ref al, .ref ra, .int (nI nn)])) := (k89 _ (z_ne a85 a86 rfl)).trans a85
                  exact ih (kq - 1) (va_up grv kq (some (fg j3))) (va_up bfv j3 ((bfv j3) + 1)) _ _ _ _ (by omega) (by omega) (by omega) (z_shift hgrv (by omega) hj3) a95 a94 a92 F91 (by
                        intro b e hb n0 n1
                        have hb3 : fL67 b = some e := k68 b e hb n0 n1
                        have hb4 : f81 b = some e := (k83 b n0).trans hb3
                        have hb5 : f87 b = some e := (k89 b (n1 j3 hj3)).trans hb4
                        exact hb5) hz hS (lv_sub hl [1, 2, 3, 0] rfl)
            have a96 : f54 ra = some (.inl (cy 3, 60, .inr (.inr (.inr (.inr gr))))) := k57 _ _ a6 
            have a97 : f61 ra = some (.inl (cy 3, 60, .inr (.inr (.inr (.inr gr))))) := (k63 _ (z_ne a96 a60 rfl)).trans a96
            have F98 : ∀ i9 : Nat, i9 < nn → f54 (fg i9) = some (.inr (4, [.int (kd i9), .ref (pt i9), .long (wg i9), .int (wd i9), .int (nI i9), .int (hs i9), .int (bf i9)])) := fun i9 h9 => k57 _ _ (F9 i9 h9) 
            have F99 : ∀ i9 : Nat, i9 < nn → f61 (fg i9) = some (.inr (4, [.int (kd i9), .ref (pt i9), .long (wg i9), .int (wd i9), .int (nI i9), .int (hs i9), .int (bf i9)])) := fun i9 h9 => (k63 _ (hq i9 h9)).trans (F98 i9 h9)
            exact lp66 (nn + 1) nn gr bf _ _ _ _ (Nat.lt_succ_self _) (by omega) (by omega) (fun k' h' => hgr k' (by omega)) a65 a62 a97 F99 (fun b e hb n0 n1 => hb) hz hS (lv_sub hl [2, 3, 4, 0] rfl)
          · refine lv_iconst (v := 1) hx hb dX5_rank_51 (by decide) ?_
            refine lv_goto (tgt := 56) hx hb dX5_rank_52 (by decide) ?_
            refine lv_istore_n (lv' := [(3, .int 1), (0, .ref h), (1, .ref q), (2, .int (nI i))]) hx hb dX5_rank_56 rfl hl (by decide) rfl (fun ls hl => ?_)
            refine lv_aload_n hx hb dX5_rank_57 rfl (lv_at hl 2 rfl) ?_
            refine lv_iload_n hx hb dX5_rank_58 rfl (lv_at hl 0 rfl) ?_
            refine lv_if_eq (tgt := 76) hx hb dX5_rank_59 (by decide) (fun c100 => ?_) (fun c100 => ?_)
            · exact absurd c100 (by decide)
            refine lv_aload_n hx hb dX5_rank_62 rfl (lv_at hl 1 rfl) ?_
            have a101 : f54 h = some (.inr (5, [.ref al, .ref ra, .int (nI nn)])) := k57 _ _ a4 
            refine z_get (v := .ref ra) C hz a101 zl5 mFX5_17 (by decide) rfl dX5_rank_63 ?_
            refine lv_iload_n hx hb dX5_rank_66 rfl (lv_at hl 3 rfl) ?_
            refine lv_iconst (v := 1) hx hb dX5_rank_67 (by decide) ?_
            refine lv_isub hx hb dX5_rank_68 ?_
            refine lv_topi (fun y102 e103 => ?_)
            obtain rfl : y102 = nI (i - 1) := e103.trans (pk_sub (a := i) (b := 1) (by omega))
            have a104 : f54 ra = some (.inl (cy 3, 60, .inr (.inr (.inr (.inr gr))))) := k57 _ _ a6 
            refine z_aldq (i - 1) C hz a104 rfl rfl (by omega) (by omega) dX5_rank_69 ?_
            rw [hgj2]
            refine W.eq (g2 := F0 m 70 ls [.ref (fg j2), .ref q]) rfl ?_
            have a105 : f54 (fg j2) = some (.inr (4, [.int (kd j2), .ref (pt j2), .long (wg j2), .int (wd j2), .int (nI j2), .int (hs j2), .int (bf j2)])) := k57 _ _ a52 
            refine z_getN (v := .int (bf j2)) C hz a105 zl4 mFNX5_69 (by decide) rfl dX5_rank_70 ?_
            refine lv_goto (tgt := 77) hx hb dX5_rank_73 (by decide) ?_
            have a106 : f54 q = some (.inr (4, [.int kdq, .ref pa, .long wgq, .int wdq, .int nuq, .int hsq, .int bfq])) := k57 _ _ a7 
            refine z_putN (fs' := [.int kdq, .ref pa, .long wgq, .int wdq, .int nuq, .int hsq, .int (bf j2)]) C hz hS a106 zl4 mFNX5_69 (by decide) rfl rfl rfl (Nat.le_of_ble_eq_true rfl) rfl dX5_rank_77 (fun H locs f107 a108 k109 hz hS => ?_)
            refine lv_aload_n hx hb dX5_rank_80 rfl (lv_at hl 1 rfl) ?_
            have a110 : f107 h = some (.inr (5, [.ref al, .ref ra, .int (nI nn)])) := (k109 _ (z_ne a101 a106 rfl)).trans a101
            refine z_get (v := .int (nI nn)) C hz a110 zl5 mFX5_20 (by decide) rfl dX5_rank_81 ?_
            refine lv_istore (lv' := [(4, .int (nI nn)), (3, .int 1), (0, .ref h), (1, .ref q), (2, .int (nI i))]) hx hb dX5_rank_84 hl (by decide) rfl (fun ls hl => ?_)
            have lp111 : ∀ (n : Nat) (kq : Nat) (grv : Nat → Option Nat) (bfv : Nat → Int32) (fL112 : zM) (H : Heap) (locs : List Loc) (ls : Array Slot), (kq) < n → (i ≤ kq) → (kq ≤ nn) → (∀ k', (k' < nn ∨ (kq < k' ∧ k' ≤ nn)) → ∃ j, j < nn ∧ grv k' = some (fg j)) → fL112 h = some (.inr (5, [.ref al, .ref ra, .int (nI nn)])) → fL112 q = some (.inr (4, [.int kdq, .ref pa, .long wgq, .int wdq, .int nuq, .int hsq, .int (bf j2)])) → fL112 ra = some (.inl (cy 3, 60, .inr (.inr (.inr (.inr grv))))) → (∀ i9 : Nat, i9 < nn → fL112 (fg i9) = some (.inr (4, [.int (kd i9), .ref (pt i9), .long (wg i9), .int (wd i9), .int (nI i9), .int (hs i9), .int (bfv i9)]))) → (∀ (b : Nat) (e : va_E), f107 b = some e → b ≠ ra → (∀ j9 : Nat, j9 < nn → b ≠ fg j9) → fL112 b = some e) → zH D (zA f s.heap.size) fL112 H → va_S (zA f s.heap.size) s.heap H locs → lv_has ls 5 [(0, .ref h), (1, .ref q), (2, .int (nI i)), (4, .int (nI kq))] → W p l e rmX5_rank s m ([.ref h, .ref q] : List Value).toArray below meth c H locs 0 0 (MQ below (va_Qv (fun (f1 : zM) => ∃ (bq : Int32) (gr1 : Nat → Option Nat) (bf1 : Nat → Int32), (∀ k, k < nn + 1 → gr1 k = some q ∨ ∃ j, j < nn ∧ gr1 k = some (fg j)) ∧ f1 q = some (.inr (4, [.int kdq, .ref pa, .long wgq, .int wdq, .int nuq, .int hsq, .int bq])) ∧ f1 ra = some (.inl (cy 3, 60, .inr (.inr (.inr (.inr gr1))))) ∧ (∀ i9 : Nat, i9 < nn → f1 (fg i9) = some (.inr (4, [.int (kd i9), .ref (pt i9), .long (wg i9), .int (wd i9), .int (nI i9), .int (hs i9), .int (bf1 i9)]))) ∧ (∀ (b : Nat) (e : va_E), f b = some e → b ≠ q → b ≠ ra → (∀ j9 : Nat, j9 < nn → b ≠ fg j9) → f1 b = some e)) (zB D f s.heap.size) (zA f s.heap.size)) ([.ref h, .ref q] : List Value).toArray s rmX5_rank.cells rmX5_rank.slots (zA f s.heap.size)) (F0 m 86 ls []) := by
              intro n
              induction n with
              | zero => intro kq grv bfv fL112 H locs ls hmz; exact absurd hmz (Nat.not_lt_zero _)
              | succ n ih =>
                intro kq grv bfv fL112 H locs ls hmz hik hkn hgrv a114 a115 a116 F117 k113 hz hS hl
                refine lv_iload hx hb dX5_rank_86 (lv_at hl 3 rfl) ?_
                refine lv_iload_n hx hb dX5_rank_88 rfl (lv_at hl 2 rfl) ?_
                refine lv_icmp_le (tgt := 130) hx hb dX5_rank_89 (by decide) (fun c118 => ?_) (fun c118 => ?_)
                · replace c118 : (kq ≤ i) := (nI_leI (a := kq) (b := i) (by omega) (by omega)).mp c118
                  refine lv_aload_n hx hb dX5_rank_130 rfl (lv_at hl 0 rfl) ?_
                  refine z_get (v := .ref ra) C hz a114 zl5 mFX5_17 (by decide) rfl dX5_rank_131 ?_
                  refine lv_iload_n hx hb dX5_rank_134 rfl (lv_at hl 2 rfl) ?_
                  refine lv_aload_n hx hb dX5_rank_135 rfl (lv_at hl 1 rfl) ?_
                  refine z_astq i C hz hS a116 rfl a115 zl4 rfl (by omega) (by omega) dX5_rank_136 (fun H locs f119 a120 k121 hz hS => ?_)
                  have a122 : f119 q = some (.inr (4, [.int kdq, .ref pa, .long wgq, .int wdq, .int nuq, .int hsq, .int (bf j2)])) := (k121 _ (z_ne a115 a116 rfl)).trans a115
                  have F123 : ∀ i9 : Nat, i9 < nn → f119 (fg i9) = some (.inr (4, [.int (kd i9), .ref (pt i9), .long (wg i9), .int (wd i9), .int (nI i9), .int (hs i9), .int (bfv i9)])) := fun i9 h9 => (k121 _ (z_ne (F117 i9 h9) a116 rfl)).trans (F117 i9 h9)
                  exact z_vret C hr hz hS ⟨(bf j2), (va_up grv i (some q)), bfv, (z_rk hgrv (by omega) (by omega) (by omega)), a122, a120, F123, (by
                        intro b e hb n0 n1 n2
                        have hb0 : fL2 b = some e := k3 b e hb 
                        have hb1 : f54 b = some e := k57 b e hb0 
                        have hb2 : f107 b = some e := (k109 b n0).trans hb1
                        have hb3 : fL112 b = some e := k113 b e hb2 n1 n2
                        have hb4 : f119 b = some e := (k121 b n1).trans hb3
                        exact hb4)⟩ (Nat.le_of_ble_eq_true rfl) (Nat.le_of_ble_eq_true rfl) dX5_rank_137
                · replace c118 : ¬ (kq ≤ i) := fun h => c118 ((nI_leI (a := kq) (b := i) (by omega) (by omega)).mpr h)
                  refine lv_aload_n hx hb dX5_rank_92 rfl (lv_at hl 0 rfl) ?_
                  refine z_get (v := .ref ra) C hz a114 zl5 mFX5_17 (by decide) rfl dX5_rank_93 ?_
                  refine lv_iload hx hb dX5_rank_96 (lv_at hl 3 rfl) ?_
                  refine lv_aload_n hx hb dX5_rank_98 rfl (lv_at hl 0 rfl) ?_
                  refine z_get (v := .ref ra) C hz a114 zl5 mFX5_17 (by decide) rfl dX5_rank_99 ?_
                  refine lv_iload hx hb dX5_rank_102 (lv_at hl 3 rfl) ?_
                  refine lv_iconst (v := 1) hx hb dX5_rank_104 (by decide) ?_
                  refine lv_isub hx hb dX5_rank_105 ?_
                  refine lv_topi (fun y124 e125 => ?_)
                  obtain rfl : y124 = nI (kq - 1) := e125.trans (pk_sub (a := kq) (b := 1) (by omega))
                  obtain ⟨j3, hj3, hgj3⟩ := hgrv (kq - 1) (Or.inl (by omega))
                  refine z_aldq (kq - 1) C hz a116 rfl rfl (by omega) (by omega) dX5_rank_106 ?_
                  rw [hgj3]
                  refine W.eq (g2 := F0 m 107 ls [.ref (fg j3), .int (nI kq), .ref ra]) rfl ?_
                  have a129 : fL112 (fg j3) = some (.inr (4, [.int (kd j3), .ref (pt j3), .long (wg j3), .int (wd j3), .int (nI j3), .int (hs j3), .int (bfv j3)])) := F117 j3 hj3
                  refine z_astq kq C hz hS a116 rfl a129 zl4 rfl (by omega) (by omega) dX5_rank_107 (fun H locs f126 a127 k128 hz hS => ?_)
                  refine lv_aload_n hx hb dX5_rank_108 rfl (lv_at hl 0 rfl) ?_
                  have a130 : f126 h = some (.inr (5, [.ref al, .ref ra, .int (nI nn)])) := (k128 _ (z_ne a114 a116 rfl)).trans a114
                  refine z_get (v := .ref ra) C hz a130 zl5 mFX5_17 (by decide) rfl dX5_rank_109 ?_
                  refine lv_iload hx hb dX5_rank_112 (lv_at hl 3 rfl) ?_
                  refine z_aldq kq C hz a127 rfl rfl (by omega) (by omega) dX5_rank_114 ?_
                  rw [va_up_self]
                  refine W.eq (g2 := F0 m 115 ls [.ref (fg j3)]) rfl ?_
                  refine lv_dup hx hb dX5_rank_115 rfl ?_
                  have a131 : f126 (fg j3) = some (.inr (4, [.int (kd j3), .ref (pt j3), .long (wg j3), .int (wd j3), .int (nI j3), .int (hs j3), .int (bfv j3)])) := (k128 _ (z_ne a129 a116 rfl)).trans a129
                  refine z_getN (v := .int (bfv j3)) C hz a131 zl4 mFNX5_69 (by decide) rfl dX5_rank_116 ?_
                  refine lv_iconst (v := 1) hx hb dX5_rank_119 (by decide) ?_
                  refine lv_iadd hx hb dX5_rank_120 ?_
                  refine z_putN (fs' := [.int (kd j3), .ref (pt j3), .long (wg j3), .int (wd j3), .int (nI j3), .int (hs j3), .int ((bfv j3) + 1)]) C hz hS a131 zl4 mFNX5_69 (by decide) rfl rfl rfl (Nat.le_of_ble_eq_true rfl) rfl dX5_rank_121 (fun H locs f132 a133 k134 hz hS => ?_)
                  have F135 : ∀ i9 : Nat, i9 < nn → f126 (fg i9) = some (.inr (4, [.int (kd i9), .ref (pt i9), .long (wg i9), .int (wd i9), .int (nI i9), .int (hs i9), .int (bfv i9)])) := fun i9 h9 => (k128 _ (z_ne (F117 i9 h9) a116 rfl)).trans (F117 i9 h9)
                  have F136 : ∀ i9 : Nat, i9 < nn → f132 (fg i9) = some (.inr (4, [.int (kd i9), .ref (pt i9), .long (wg i9), .int (wd i9), .int (nI i9), .int (hs i9), .int (va_up bfv j3 ((bfv j3) + 1) i9)])) := z_famW (T := fun i9 => .inr (4, [.int (kd i9), .ref (pt i9), .long (wg i9), .int (wd i9), .int (nI i9), .int (hs i9), .int (bfv i9)])) (T' := fun i9 => .inr (4, [.int (kd i9), .ref (pt i9), .long (wg i9), .int (wd i9), .int (nI i9), .int (hs i9), .int (va_up bfv j3 ((bfv j3) + 1) i9)])) F135 hj3 (by simp only [va_up_self]; exact a133) k134 (fun i9 h9 => by simp only [va_up_ne _ _ h9]) (fun i9 h9 => hfi i9 h9 j3 hj3)
                  refine lv_iinc (v := nI (kq - 1)) (lv' := [(4, .int (nI (kq - 1))), (0, .ref h), (1, .ref q), (2, .int (nI i))]) hx hb dX5_rank_124 hl (k := 3) rfl (z_dec (by omega)) (by decide) rfl (fun ls hl => ?_)
                  refine lv_goto (tgt := 86) hx hb dX5_rank_127 (by decide) ?_
                  have a137 : f132 ra = some (.inl (cy 3, 60, .inr (.inr (.inr (.inr (va_up grv kq (some (fg j3)))))))) := (k134 _ (z_ne a127 a131 rfl)).trans a127
                  have a138 : f126 q = some (.inr (4, [.int kdq, .ref pa, .long wgq, .int wdq, .int nuq, .int hsq, .int (bf j2)])) := (k128 _ (z_ne a115 a116 rfl)).trans a115
                  have a139 : f132 q = some (.inr (4, [.int kdq, .ref pa, .long wgq, .int wdq, .int nuq, .int hsq, .int (bf j2)])) := (k134 _ ((fun j9 h8 => Ne.symm (hq j9 h8)) j3 hj3)).trans a138
                  have a140 : f132 h = some (.inr (5, [.ref al, .ref ra, .int (nI nn)])) := (k134 _ (z_ne a130 a131 rfl)).trans a130
                  exact ih (kq - 1) (va_up grv kq (some (fg j3))) (va_up bfv j3 ((bfv j3) + 1)) _ _ _ _ (by omega) (by omega) (by omega) (z_shift hgrv (by omega) hj3) a140 a139 a137 F136 (by
                        intro b e hb n0 n1
                        have hb3 : fL112 b = some e := k113 b e hb n0 n1
                        have hb4 : f126 b = some e := (k128 b n0).trans hb3
                        have hb5 : f132 b = some e := (k134 b (n1 j3 hj3)).trans hb4
                        exact hb5) hz hS (lv_sub hl [1, 2, 3, 0] rfl)
            have a141 : f107 ra = some (.inl (cy 3, 60, .inr (.inr (.inr (.inr gr))))) := (k109 _ (z_ne a104 a106 rfl)).trans a104
            have F142 : ∀ i9 : Nat, i9 < nn → f54 (fg i9) = some (.inr (4, [.int (kd i9), .ref (pt i9), .long (wg i9), .int (wd i9), .int (nI i9), .int (hs i9), .int (bf i9)])) := fun i9 h9 => k57 _ _ (F9 i9 h9) 
            have F143 : ∀ i9 : Nat, i9 < nn → f107 (fg i9) = some (.inr (4, [.int (kd i9), .ref (pt i9), .long (wg i9), .int (wd i9), .int (nI i9), .int (hs i9), .int (bf i9)])) := fun i9 h9 => (k109 _ (hq i9 h9)).trans (F142 i9 h9)
            exact lp111 (nn + 1) nn gr bf _ _ _ _ (Nat.lt_succ_self _) (by omega) (by omega) (fun k' h' => hgr k' (by omega)) a110 a108 a141 F143 (fun b e hb n0 n1 => hb) hz hS (lv_sub hl [2, 3, 4, 0] rfl)
      · replace c11 : ¬ (i ≤ 0) := fun h => c11 ((nI_leI (a := i) (b := 0) (by omega) (by omega)).mpr h)
        refine lv_aload_n hx hb dX5_rank_9 rfl (lv_at hl 0 rfl) ?_
        refine lv_aload_n hx hb dX5_rank_10 rfl (lv_at hl 0 rfl) ?_
        refine z_get (v := .ref ra) C hz a4 zl5 mFX5_17 (by decide) rfl dX5_rank_11 ?_
        refine lv_iload_n hx hb dX5_rank_14 rfl (lv_at hl 2 rfl) ?_
        refine lv_iconst (v := 1) hx hb dX5_rank_15 (by decide) ?_
        refine lv_isub hx hb dX5_rank_16 ?_
        refine lv_topi (fun y144 e145 => ?_)
        obtain rfl : y144 = nI (i - 1) := e145.trans (pk_sub (a := i) (b := 1) (by omega))
        obtain ⟨j, hj, hgj⟩ := hgr (i - 1) (by omega)
        refine z_aldq (i - 1) C hz a6 rfl rfl (by omega) (by omega) dX5_rank_17 ?_
        rw [hgj]
        refine W.eq (g2 := F0 m 18 ls [.ref (fg j), .ref h]) rfl ?_
        refine lv_aload_n hx hb dX5_rank_18 rfl (lv_at hl 1 rfl) ?_
        have a146 : fL2 (fg j) = some (.inr (4, [.int (kd j), .ref (pt j), .long (wg j), .int (wd j), .int (nI j), .int (hs j), .int (bf j)])) := F9 j hj
        have a147 : fL2 (pt j) = some (.inl (cy 1, (ln j), .inr (.inl (pp j)))) := F10 j hj
        refine z_callVi (As := [.ref (fg j), .ref q]) C hz hS hA hl (k_X5_compare l D cy fL2 h al ra ga nn fg pt kd ln pp wg wd hs bf (fg j) (kd j) (pt j) (wg j) (wd j) (nI j) (hs j) (bf j) (ln j) (pp j) q kdq pa wgq wdq nuq hsq bfq t gp a4 a5 a146 a7 a147 a8 F9 (by omega) hga (by have h9 := hln j hj; omega) (by omega) (hk5 j hj) h5q) zyX5_compare mMX5_65 a4 zl5 rfl rfl (Nat.le_of_ble_eq_true rfl) ⟨Nat.le_of_ble_eq_true rfl, Nat.le_of_ble_eq_true rfl⟩ ⟨Nat.le_of_ble_eq_true rfl, Nat.le_of_ble_eq_true rfl⟩ dX5_rank_19 (fun r150 f148 H locs h149 hz hS => ?_)
        have k151 := h149
        refine lv_if_le (tgt := 31) hx hb dX5_rank_22 (by decide) (fun c152 => ?_) (fun c152 => ?_)
        · refine lv_iload_n hx hb dX5_rank_31 rfl (lv_at hl 2 rfl) ?_
          refine lv_if_le (tgt := 55) hx hb dX5_rank_32 (by decide) (fun c153 => ?_) (fun c153 => ?_)
          · replace c153 : (i ≤ 0) := (nI_leI (a := i) (b := 0) (by omega) (by omega)).mp c153
            refine lv_iconst (v := 0) hx hb dX5_rank_55 (by decide) ?_
            refine lv_istore_n (lv' := [(3, .int 0), (0, .ref h), (1, .ref q), (2, .int (nI i))]) hx hb dX5_rank_56 rfl hl (by decide) rfl (fun ls hl => ?_)
            refine lv_aload_n hx hb dX5_rank_57 rfl (lv_at hl 2 rfl) ?_
            refine lv_iload_n hx hb dX5_rank_58 rfl (lv_at hl 0 rfl) ?_
            refine lv_if_eq (tgt := 76) hx hb dX5_rank_59 (by decide) (fun c154 => ?_) (fun c154 => ?_)
            rotate_left
            · exact absurd c154 (by decide)
            refine lv_iload_n hx hb dX5_rank_76 rfl (lv_at hl 3 rfl) ?_
            have a155 : f148 q = some (.inr (4, [.int kdq, .ref pa, .long wgq, .int wdq, .int nuq, .int hsq, .int bfq])) := k151 _ _ a7 
            refine z_putN (fs' := [.int kdq, .ref pa, .long wgq, .int wdq, .int nuq, .int hsq, .int (nI i)]) C hz hS a155 zl4 mFNX5_69 (by decide) rfl rfl rfl (Nat.le_of_ble_eq_true rfl) rfl dX5_rank_77 (fun H locs f156 a157 k158 hz hS => ?_)
            refine lv_aload_n hx hb dX5_rank_80 rfl (lv_at hl 1 rfl) ?_
            have a159 : f148 h = some (.inr (5, [.ref al, .ref ra, .int (nI nn)])) := k151 _ _ a4 
            have a160 : f156 h = some (.inr (5, [.ref al, .ref ra, .int (nI nn)])) := (k158 _ (z_ne a159 a155 rfl)).trans a159
            refine z_get (v := .int (nI nn)) C hz a160 zl5 mFX5_20 (by decide) rfl dX5_rank_81 ?_
            refine lv_istore (lv' := [(4, .int (nI nn)), (3, .int 0), (0, .ref h), (1, .ref q), (2, .int (nI i))]) hx hb dX5_rank_84 hl (by decide) rfl (fun ls hl => ?_)
            have lp161 : ∀ (n : Nat) (kq : Nat) (grv : Nat → Option Nat) (bfv : Nat → Int32) (fL162 : zM) (H : Heap) (locs : List Loc) (ls : Array Slot), (kq) < n → (i ≤ kq) → (kq ≤ nn) → (∀ k', (k' < nn ∨ (kq < k' ∧ k' ≤ nn)) → ∃ j, j < nn ∧ grv k' = some (fg j)) → fL162 h = some (.inr (5, [.ref al, .ref ra, .int (nI nn)])) → fL162 q = some (.inr (4, [.int kdq, .ref pa, .long wgq, .int wdq, .int nuq, .int hsq, .int (nI i)])) → fL162 ra = some (.inl (cy 3, 60, .inr (.inr (.inr (.inr grv))))) → (∀ i9 : Nat, i9 < nn → fL162 (fg i9) = some (.inr (4, [.int (kd i9), .ref (pt i9), .long (wg i9), .int (wd i9), .int (nI i9), .int (hs i9), .int (bfv i9)]))) → (∀ (b : Nat) (e : va_E), f156 b = some e → b ≠ ra → (∀ j9 : Nat, j9 < nn → b ≠ fg j9) → fL162 b = some e) → zH D (zA f s.heap.size) fL162 H → va_S (zA f s.heap.size) s.heap H locs → lv_has ls 5 [(0, .ref h), (1, .ref q), (2, .int (nI i)), (4, .int (nI kq))] → W p l e rmX5_rank s m ([.ref h, .ref q] : List Value).toArray below meth c H locs 0 0 (MQ below (va_Qv (fun (f1 : zM) => ∃ (bq : Int32) (gr1 : Nat → Option Nat) (bf1 : Nat → Int32), (∀ k, k < nn + 1 → gr1 k = some q ∨ ∃ j, j < nn ∧ gr1 k = some (fg j)) ∧ f1 q = some (.inr (4, [.int kdq, .ref pa, .long wgq, .int wdq, .int nuq, .int hsq, .int bq])) ∧ f1 ra = some (.inl (cy 3, 60, .inr (.inr (.inr (.inr gr1))))) ∧ (∀ i9 : Nat, i9 < nn → f1 (fg i9) = some (.inr (4, [.int (kd i9), .ref (pt i9), .long (wg i9), .int (wd i9), .int (nI i9), .int (hs i9), .int (bf1 i9)]))) ∧ (∀ (b : Nat) (e : va_E), f b = some e → b ≠ q → b ≠ ra → (∀ j9 : Nat, j9 < nn → b ≠ fg j9) → f1 b = some e)) (zB D f s.heap.size) (zA f s.heap.size)) ([.ref h, .ref q] : List Value).toArray s rmX5_rank.cells rmX5_rank.slots (zA f s.heap.size)) (F0 m 86 ls []) := by
              intro n
              induction n with
              | zero => intro kq grv bfv fL162 H locs ls hmz; exact absurd hmz (Nat.not_lt_zero _)
              | succ n ih =>
                intro kq grv bfv fL162 H locs ls hmz hik hkn hgrv a164 a165 a166 F167 k163 hz hS hl
                refine lv_iload hx hb dX5_rank_86 (lv_at hl 3 rfl) ?_
                refine lv_iload_n hx hb dX5_rank_88 rfl (lv_at hl 2 rfl) ?_
                refine lv_icmp_le (tgt := 130) hx hb dX5_rank_89 (by decide) (fun c168 => ?_) (fun c168 => ?_)
                · replace c168 : (kq ≤ i) := (nI_leI (a := kq) (b := i) (by omega) (by omega)).mp c168
                  refine lv_aload_n hx hb dX5_rank_130 rfl (lv_at hl 0 rfl) ?_
                  refine z_get (v := .ref ra) C hz a164 zl5 mFX5_17 (by decide) rfl dX5_rank_131 ?_
                  refine lv_iload_n hx hb dX5_rank_134 rfl (lv_at hl 2 rfl) ?_
                  refine lv_aload_n hx hb dX5_rank_135 rfl (lv_at hl 1 rfl) ?_
                  refine z_astq i C hz hS a166 rfl a165 zl4 rfl (by omega) (by omega) dX5_rank_136 (fun H locs f169 a170 k171 hz hS => ?_)
                  have a172 : f169 q = some (.inr (4, [.int kdq, .ref pa, .long wgq, .int wdq, .int nuq, .int hsq, .int (nI i)])) := (k171 _ (z_ne a165 a166 rfl)).trans a165
                  have F173 : ∀ i9 : Nat, i9 < nn → f169 (fg i9) = some (.inr (4, [.int (kd i9), .ref (pt i9), .long (wg i9), .int (wd i9), .int (nI i9), .int (hs i9), .int (bfv i9)])) := fun i9 h9 => (k171 _ (z_ne (F167 i9 h9) a166 rfl)).trans (F167 i9 h9)
                  exact z_vret C hr hz hS ⟨(nI i), (va_up grv i (some q)), bfv, (z_rk hgrv (by omega) (by omega) (by omega)), a172, a170, F173, (by
                        intro b e hb n0 n1 n2
                        have hb0 : fL2 b = some e := k3 b e hb 
                        have hb1 : f148 b = some e := k151 b e hb0 
                        have hb2 : f156 b = some e := (k158 b n0).trans hb1
                        have hb3 : fL162 b = some e := k163 b e hb2 n1 n2
                        have hb4 : f169 b = some e := (k171 b n1).trans hb3
                        exact hb4)⟩ (Nat.le_of_ble_eq_true rfl) (Nat.le_of_ble_eq_true rfl) dX5_rank_137
                · replace c168 : ¬ (kq ≤ i) := fun h => c168 ((nI_leI (a := kq) (b := i) (by omega) (by omega)).mpr h)
                  refine lv_aload_n hx hb dX5_rank_92 rfl (lv_at hl 0 rfl) ?_
                  refine z_get (v := .ref ra) C hz a164 zl5 mFX5_17 (by decide) rfl dX5_rank_93 ?_
                  refine lv_iload hx hb dX5_rank_96 (lv_at hl 3 rfl) ?_
                  refine lv_aload_n hx hb dX5_rank_98 rfl (lv_at hl 0 rfl) ?_
                  refine z_get (v := .ref ra) C hz a164 zl5 mFX5_17 (by decide) rfl dX5_rank_99 ?_
                  refine lv_iload hx hb dX5_rank_102 (lv_at hl 3 rfl) ?_
                  refine lv_iconst (v := 1) hx hb dX5_rank_104 (by decide) ?_
                  refine lv_isub hx hb dX5_rank_105 ?_
                  refine lv_topi (fun y174 e175 => ?_)
                  obtain rfl : y174 = nI (kq - 1) := e175.trans (pk_sub (a := kq) (b := 1) (by omega))
                  obtain ⟨j3, hj3, hgj3⟩ := hgrv (kq - 1) (Or.inl (by omega))
                  refine z_aldq (kq - 1) C hz a166 rfl rfl (by omega) (by omega) dX5_rank_106 ?_
                  rw [hgj3]
                  refine W.eq (g2 := F0 m 107 ls [.ref (fg j3), .int (nI kq), .ref ra]) rfl ?_
                  have a179 : fL162 (fg j3) = some (.inr (4, [.int (kd j3), .ref (pt j3), .long (wg j3), .int (wd j3), .int (nI j3), .int (hs j3), .int (bfv j3)])) := F167 j3 hj3
                  refine z_astq kq C hz hS a166 rfl a179 zl4 rfl (by omega) (by omega) dX5_rank_107 (fun H locs f176 a177 k178 hz hS => ?_)
                  refine lv_aload_n hx hb dX5_rank_108 rfl (lv_at hl 0 rfl) ?_
                  have a180 : f176 h = some (.inr (5, [.ref al, .ref ra, .int (nI nn)])) := (k178 _ (z_ne a164 a166 rfl)).trans a164
                  refine z_get (v := .ref ra) C hz a180 zl5 mFX5_17 (by decide) rfl dX5_rank_109 ?_
                  refine lv_iload hx hb dX5_rank_112 (lv_at hl 3 rfl) ?_
                  refine z_aldq kq C hz a177 rfl rfl (by omega) (by omega) dX5_rank_114 ?_
                  rw [va_up_self]
                  refine W.eq (g2 := F0 m 115 ls [.ref (fg j3)]) rfl ?_
                  refine lv_dup hx hb dX5_rank_115 rfl ?_
                  have a181 : f176 (fg j3) = some (.inr (4, [.int (kd j3), .ref (pt j3), .long (wg j3), .int (wd j3), .int (nI j3), .int (hs j3), .int (bfv j3)])) := (k178 _ (z_ne a179 a166 rfl)).trans a179
                  refine z_getN (v := .int (bfv j3)) C hz a181 zl4 mFNX5_69 (by decide) rfl dX5_rank_116 ?_
                  refine lv_iconst (v := 1) hx hb dX5_rank_119 (by decide) ?_
                  refine lv_iadd hx hb dX5_rank_120 ?_
                  refine z_putN (fs' := [.int (kd j3), .ref (pt j3), .long (wg j3), .int (wd j3), .int (nI j3), .int (hs j3), .int ((bfv j3) + 1)]) C hz hS a181 zl4 mFNX5_69 (by decide) rfl rfl rfl (Nat.le_of_ble_eq_true rfl) rfl dX5_rank_121 (fun H locs f182 a183 k184 hz hS => ?_)
                  have F185 : ∀ i9 : Nat, i9 < nn → f176 (fg i9) = some (.inr (4, [.int (kd i9), .ref (pt i9), .long (wg i9), .int (wd i9), .int (nI i9), .int (hs i9), .int (bfv i9)])) := fun i9 h9 => (k178 _ (z_ne (F167 i9 h9) a166 rfl)).trans (F167 i9 h9)
                  have F186 : ∀ i9 : Nat, i9 < nn → f182 (fg i9) = some (.inr (4, [.int (kd i9), .ref (pt i9), .long (wg i9), .int (wd i9), .int (nI i9), .int (hs i9), .int (va_up bfv j3 ((bfv j3) + 1) i9)])) := z_famW (T := fun i9 => .inr (4, [.int (kd i9), .ref (pt i9), .long (wg i9), .int (wd i9), .int (nI i9), .int (hs i9), .int (bfv i9)])) (T' := fun i9 => .inr (4, [.int (kd i9), .ref (pt i9), .long (wg i9), .int (wd i9), .int (nI i9), .int (hs i9), .int (va_up bfv j3 ((bfv j3) + 1) i9)])) F185 hj3 (by simp only [va_up_self]; exact a183) k184 (fun i9 h9 => by simp only [va_up_ne _ _ h9]) (fun i9 h9 => hfi i9 h9 j3 hj3)
                  refine lv_iinc (v := nI (kq - 1)) (lv' := [(4, .int (nI (kq - 1))), (0, .ref h), (1, .ref q), (2, .int (nI i))]) hx hb dX5_rank_124 hl (k := 3) rfl (z_dec (by omega)) (by decide) rfl (fun ls hl => ?_)
                  refine lv_goto (tgt := 86) hx hb dX5_rank_127 (by decide) ?_
                  have a187 : f182 ra = some (.inl (cy 3, 60, .inr (.inr (.inr (.inr (va_up grv kq (some (fg j3)))))))) := (k184 _ (z_ne a177 a181 rfl)).trans a177
                  have a188 : f176 q = some (.inr (4, [.int kdq, .ref pa, .long wgq, .int wdq, .int nuq, .int hsq, .int (nI i)])) := (k178 _ (z_ne a165 a166 rfl)).trans a165
                  have a189 : f182 q = some (.inr (4, [.int kdq, .ref pa, .long wgq, .int wdq, .int nuq, .int hsq, .int (nI i)])) := (k184 _ ((fun j9 h8 => Ne.symm (hq j9 h8)) j3 hj3)).trans a188
                  have a190 : f182 h = some (.inr (5, [.ref al, .ref ra, .int (nI nn)])) := (k184 _ (z_ne a180 a181 rfl)).trans a180
                  exact ih (kq - 1) (va_up grv kq (some (fg j3))) (va_up bfv j3 ((bfv j3) + 1)) _ _ _ _ (by omega) (by omega) (by omega) (z_shift hgrv (by omega) hj3) a190 a189 a187 F186 (by
                        intro b e hb n0 n1
                        have hb3 : fL162 b = some e := k163 b e hb n0 n1
                        have hb4 : f176 b = some e := (k178 b n0).trans hb3
                        have hb5 : f182 b = some e := (k184 b (n1 j3 hj3)).trans hb4
                        exact hb5) hz hS (lv_sub hl [1, 2, 3, 0] rfl)
            have a191 : f148 ra = some (.inl (cy 3, 60, .inr (.inr (.inr (.inr gr))))) := k151 _ _ a6 
            have a192 : f156 ra = some (.inl (cy 3, 60, .inr (.inr (.inr (.inr gr))))) := (k158 _ (z_ne a191 a155 rfl)).trans a191
            have F193 : ∀ i9 : Nat, i9 < nn → f148 (fg i9) = some (.inr (4, [.int (kd i9), .ref (pt i9), .long (wg i9), .int (wd i9), .int (nI i9), .int (hs i9), .int (bf i9)])) := fun i9 h9 => k151 _ _ (F9 i9 h9) 
            have F194 : ∀ i9 : Nat, i9 < nn → f156 (fg i9) = some (.inr (4, [.int (kd i9), .ref (pt i9), .long (wg i9), .int (wd i9), .int (nI i9), .int (hs i9), .int (bf i9)])) := fun i9 h9 => (k158 _ (hq i9 h9)).trans (F193 i9 h9)
            exact lp161 (nn + 1) nn gr bf _ _ _ _ (Nat.lt_succ_self _) (by omega) (by omega) (fun k' h' => hgr k' (by omega)) a160 a157 a192 F194 (fun b e hb n0 n1 => hb) hz hS (lv_sub hl [2, 3, 4, 0] rfl)
          · replace c153 : ¬ (i ≤ 0) := fun h => c153 ((nI_leI (a := i) (b := 0) (by omega) (by omega)).mpr h)
            refine lv_aload_n hx hb dX5_rank_35 rfl (lv_at hl 0 rfl) ?_
            refine lv_aload_n hx hb dX5_rank_36 rfl (lv_at hl 0 rfl) ?_
            have a195 : f148 h = some (.inr (5, [.ref al, .ref ra, .int (nI nn)])) := k151 _ _ a4 
            refine z_get (v := .ref ra) C hz a195 zl5 mFX5_17 (by decide) rfl dX5_rank_37 ?_
            refine lv_iload_n hx hb dX5_rank_40 rfl (lv_at hl 2 rfl) ?_
            refine lv_iconst (v := 1) hx hb dX5_rank_41 (by decide) ?_
            refine lv_isub hx hb dX5_rank_42 ?_
            refine lv_topi (fun y196 e197 => ?_)
            obtain rfl : y196 = nI (i - 1) := e197.trans (pk_sub (a := i) (b := 1) (by omega))
            obtain ⟨j2, hj2, hgj2⟩ := hgr (i - 1) (by omega)
            have a198 : f148 ra = some (.inl (cy 3, 60, .inr (.inr (.inr (.inr gr))))) := k151 _ _ a6 
            refine z_aldq (i - 1) C hz a198 rfl rfl (by omega) (by omega) dX5_rank_43 ?_
            rw [hgj2]
            refine W.eq (g2 := F0 m 44 ls [.ref (fg j2), .ref h]) rfl ?_
            refine lv_aload_n hx hb dX5_rank_44 rfl (lv_at hl 1 rfl) ?_
            have a199 : f148 al = some (.inl (cy 3, 60, .inr (.inr (.inr (.inr ga))))) := k151 _ _ a5 
            have F200 : ∀ i9 : Nat, i9 < nn → f148 (fg i9) = some (.inr (4, [.int (kd i9), .ref (pt i9), .long (wg i9), .int (wd i9), .int (nI i9), .int (hs i9), .int (bf i9)])) := fun i9 h9 => k151 _ _ (F9 i9 h9) 
            have a201 : f148 (fg j2) = some (.inr (4, [.int (kd j2), .ref (pt j2), .long (wg j2), .int (wd j2), .int (nI j2), .int (hs j2), .int (bf j2)])) := F200 j2 hj2
            have a202 : f148 q = some (.inr (4, [.int kdq, .ref pa, .long wgq, .int wdq, .int nuq, .int hsq, .int bfq])) := k151 _ _ a7 
            have F203 : ∀ i9 : Nat, i9 < nn → f148 (pt i9) = some (.inl (cy 1, (ln i9), .inr (.inl (pp i9)))) := fun i9 h9 => k151 _ _ (F10 i9 h9) 
            have a204 : f148 (pt j2) = some (.inl (cy 1, (ln j2), .inr (.inl (pp j2)))) := F203 j2 hj2
            have a205 : f148 pa = some (.inl (cy 1, t, .inr (.inl gp))) := k151 _ _ a8 
            refine z_callVi (As := [.ref (fg j2), .ref q]) C hz hS hA hl (k_X5_compare l D cy f148 h al ra ga nn fg pt kd ln pp wg wd hs bf (fg j2) (kd j2) (pt j2) (wg j2) (wd j2) (nI j2) (hs j2) (bf j2) (ln j2) (pp j2) q kdq pa wgq wdq nuq hsq bfq t gp a195 a199 a201 a202 a204 a205 F200 (by omega) hga (by have h9 := hln j2 hj2; omega) (by omega) (hk5 j2 hj2) h5q) zyX5_compare mMX5_65 a195 zl5 rfl rfl (Nat.le_of_ble_eq_true rfl) ⟨Nat.le_of_ble_eq_true rfl, Nat.le_of_ble_eq_true rfl⟩ ⟨Nat.le_of_ble_eq_true rfl, Nat.le_of_ble_eq_true rfl⟩ dX5_rank_45 (fun r208 f206 H locs h207 hz hS => ?_)
            have k209 := h207
            refine lv_if_ne (tgt := 55) hx hb dX5_rank_48 (by decide) (fun c210 => ?_) (fun c210 => ?_)
            · refine lv_iconst (v := 0) hx hb dX5_rank_55 (by decide) ?_
              refine lv_istore_n (lv' := [(3, .int 0), (0, .ref h), (1, .ref q), (2, .int (nI i))]) hx hb dX5_rank_56 rfl hl (by decide) rfl (fun ls hl => ?_)
              refine lv_aload_n hx hb dX5_rank_57 rfl (lv_at hl 2 rfl) ?_
              refine lv_iload_n hx hb dX5_rank_58 rfl (lv_at hl 0 rfl) ?_
              refine lv_if_eq (tgt := 76) hx hb dX5_rank_59 (by decide) (fun c211 => ?_) (fun c211 => ?_)
              rotate_left
              · exact absurd c211 (by decide)
              refine lv_iload_n hx hb dX5_rank_76 rfl (lv_at hl 3 rfl) ?_
              have a212 : f206 q = some (.inr (4, [.int kdq, .ref pa, .long wgq, .int wdq, .int nuq, .int hsq, .int bfq])) := k209 _ _ a202 
              refine z_putN (fs' := [.int kdq, .ref pa, .long wgq, .int wdq, .int nuq, .int hsq, .int (nI i)]) C hz hS a212 zl4 mFNX5_69 (by decide) rfl rfl rfl (Nat.le_of_ble_eq_true rfl) rfl dX5_rank_77 (fun H locs f213 a214 k215 hz hS => ?_)
              refine lv_aload_n hx hb dX5_rank_80 rfl (lv_at hl 1 rfl) ?_
              have a216 : f206 h = some (.inr (5, [.ref al, .ref ra, .int (nI nn)])) := k209 _ _ a195 
              have a217 : f213 h = some (.inr (5, [.ref al, .ref ra, .int (nI nn)])) := (k215 _ (z_ne a216 a212 rfl)).trans a216
              refine z_get (v := .int (nI nn)) C hz a217 zl5 mFX5_20 (by decide) rfl dX5_rank_81 ?_
              refine lv_istore (lv' := [(4, .int (nI nn)), (3, .int 0), (0, .ref h), (1, .ref q), (2, .int (nI i))]) hx hb dX5_rank_84 hl (by decide) rfl (fun ls hl => ?_)
              have lp218 : ∀ (n : Nat) (kq : Nat) (grv : Nat → Option Nat) (bfv : Nat → Int32) (fL219 : zM) (H : Heap) (locs : List Loc) (ls : Array Slot), (kq) < n → (i ≤ kq) → (kq ≤ nn) → (∀ k', (k' < nn ∨ (kq < k' ∧ k' ≤ nn)) → ∃ j, j < nn ∧ grv k' = some (fg j)) → fL219 h = some (.inr (5, [.ref al, .ref ra, .int (nI nn)])) → fL219 q = some (.inr (4, [.int kdq, .ref pa, .long wgq, .int wdq, .int nuq, .int hsq, .int (nI i)])) → fL219 ra = some (.inl (cy 3, 60, .inr (.inr (.inr (.inr grv))))) → (∀ i9 : Nat, i9 < nn → fL219 (fg i9) = some (.inr (4, [.int (kd i9), .ref (pt i9), .long (wg i9), .int (wd i9), .int (nI i9), .int (hs i9), .int (bfv i9)]))) → (∀ (b : Nat) (e : va_E), f213 b = some e → b ≠ ra → (∀ j9 : Nat, j9 < nn → b ≠ fg j9) → fL219 b = some e) → zH D (zA f s.heap.size) fL219 H → va_S (zA f s.heap.size) s.heap H locs → lv_has ls 5 [(0, .ref h), (1, .ref q), (2, .int (nI i)), (4, .int (nI kq))] → W p l e rmX5_rank s m ([.ref h, .ref q] : List Value).toArray below meth c H locs 0 0 (MQ below (va_Qv (fun (f1 : zM) => ∃ (bq : Int32) (gr1 : Nat → Option Nat) (bf1 : Nat → Int32), (∀ k, k < nn + 1 → gr1 k = some q ∨ ∃ j, j < nn ∧ gr1 k = some (fg j)) ∧ f1 q = some (.inr (4, [.int kdq, .ref pa, .long wgq, .int wdq, .int nuq, .int hsq, .int bq])) ∧ f1 ra = some (.inl (cy 3, 60, .inr (.inr (.inr (.inr gr1))))) ∧ (∀ i9 : Nat, i9 < nn → f1 (fg i9) = some (.inr (4, [.int (kd i9), .ref (pt i9), .long (wg i9), .int (wd i9), .int (nI i9), .int (hs i9), .int (bf1 i9)]))) ∧ (∀ (b : Nat) (e : va_E), f b = some e → b ≠ q → b ≠ ra → (∀ j9 : Nat, j9 < nn → b ≠ fg j9) → f1 b = some e)) (zB D f s.heap.size) (zA f s.heap.size)) ([.ref h, .ref q] : List Value).toArray s rmX5_rank.cells rmX5_rank.slots (zA f s.heap.size)) (F0 m 86 ls []) := by
                intro n
                induction n with
                | zero => intro kq grv bfv fL219 H locs ls hmz; exact absurd hmz (Nat.not_lt_zero _)
                | succ n ih =>
                  intro kq grv bfv fL219 H locs ls hmz hik hkn hgrv a221 a222 a223 F224 k220 hz hS hl
                  refine lv_iload hx hb dX5_rank_86 (lv_at hl 3 rfl) ?_
                  refine lv_iload_n hx hb dX5_rank_88 rfl (lv_at hl 2 rfl) ?_
                  refine lv_icmp_le (tgt := 130) hx hb dX5_rank_89 (by decide) (fun c225 => ?_) (fun c225 => ?_)
                  · replace c225 : (kq ≤ i) := (nI_leI (a := kq) (b := i) (by omega) (by omega)).mp c225
                    refine lv_aload_n hx hb dX5_rank_130 rfl (lv_at hl 0 rfl) ?_
                    refine z_get (v := .ref ra) C hz a221 zl5 mFX5_17 (by decide) rfl dX5_rank_131 ?_
                    refine lv_iload_n hx hb dX5_rank_134 rfl (lv_at hl 2 rfl) ?_
                    refine lv_aload_n hx hb dX5_rank_135 rfl (lv_at hl 1 rfl) ?_
                    refine z_astq i C hz hS a223 rfl a222 zl4 rfl (by omega) (by omega) dX5_rank_136 (fun H locs f226 a227 k228 hz hS => ?_)
                    have a229 : f226 q = some (.inr (4, [.int kdq, .ref pa, .long wgq, .int wdq, .int nuq, .int hsq, .int (nI i)])) := (k228 _ (z_ne a222 a223 rfl)).trans a222
                    have F230 : ∀ i9 : Nat, i9 < nn → f226 (fg i9) = some (.inr (4, [.int (kd i9), .ref (pt i9), .long (wg i9), .int (wd i9), .int (nI i9), .int (hs i9), .int (bfv i9)])) := fun i9 h9 => (k228 _ (z_ne (F224 i9 h9) a223 rfl)).trans (F224 i9 h9)
                    exact z_vret C hr hz hS ⟨(nI i), (va_up grv i (some q)), bfv, (z_rk hgrv (by omega) (by omega) (by omega)), a229, a227, F230, (by
                          intro b e hb n0 n1 n2
                          have hb0 : fL2 b = some e := k3 b e hb 
                          have hb1 : f148 b = some e := k151 b e hb0 
                          have hb2 : f206 b = some e := k209 b e hb1 
                          have hb3 : f213 b = some e := (k215 b n0).trans hb2
                          have hb4 : fL219 b = some e := k220 b e hb3 n1 n2
                          have hb5 : f226 b = some e := (k228 b n1).trans hb4
                          exact hb5)⟩ (Nat.le_of_ble_eq_true rfl) (Nat.le_of_ble_eq_true rfl) dX5_rank_137
                  · replace c225 : ¬ (kq ≤ i) := fun h => c225 ((nI_leI (a := kq) (b := i) (by omega) (by omega)).mpr h)
                    refine lv_aload_n hx hb dX5_rank_92 rfl (lv_at hl 0 rfl) ?_
                    refine z_get (v := .ref ra) C hz a221 zl5 mFX5_17 (by decide) rfl dX5_rank_93 ?_
                    refine lv_iload hx hb dX5_rank_96 (lv_at hl 3 rfl) ?_
                    refine lv_aload_n hx hb dX5_rank_98 rfl (lv_at hl 0 rfl) ?_
                    refine z_get (v := .ref ra) C hz a221 zl5 mFX5_17 (by decide) rfl dX5_rank_99 ?_
                    refine lv_iload hx hb dX5_rank_102 (lv_at hl 3 rfl) ?_
                    refine lv_iconst (v := 1) hx hb dX5_rank_104 (by decide) ?_
                    refine lv_isub hx hb dX5_rank_105 ?_
                    refine lv_topi (fun y231 e232 => ?_)
                    obtain rfl : y231 = nI (kq - 1) := e232.trans (pk_sub (a := kq) (b := 1) (by omega))
                    obtain ⟨j3, hj3, hgj3⟩ := hgrv (kq - 1) (Or.inl (by omega))
                    refine z_aldq (kq - 1) C hz a223 rfl rfl (by omega) (by omega) dX5_rank_106 ?_
                    rw [hgj3]
                    refine W.eq (g2 := F0 m 107 ls [.ref (fg j3), .int (nI kq), .ref ra]) rfl ?_
                    have a236 : fL219 (fg j3) = some (.inr (4, [.int (kd j3), .ref (pt j3), .long (wg j3), .int (wd j3), .int (nI j3), .int (hs j3), .int (bfv j3)])) := F224 j3 hj3
                    refine z_astq kq C hz hS a223 rfl a236 zl4 rfl (by omega) (by omega) dX5_rank_107 (fun H locs f233 a234 k235 hz hS => ?_)
                    refine lv_aload_n hx hb dX5_rank_108 rfl (lv_at hl 0 rfl) ?_
                    have a237 : f233 h = some (.inr (5, [.ref al, .ref ra, .int (nI nn)])) := (k235 _ (z_ne a221 a223 rfl)).trans a221
                    refine z_get (v := .ref ra) C hz a237 zl5 mFX5_17 (by decide) rfl dX5_rank_109 ?_
                    refine lv_iload hx hb dX5_rank_112 (lv_at hl 3 rfl) ?_
                    refine z_aldq kq C hz a234 rfl rfl (by omega) (by omega) dX5_rank_114 ?_
                    rw [va_up_self]
                    refine W.eq (g2 := F0 m 115 ls [.ref (fg j3)]) rfl ?_
                    refine lv_dup hx hb dX5_rank_115 rfl ?_
                    have a238 : f233 (fg j3) = some (.inr (4, [.int (kd j3), .ref (pt j3), .long (wg j3), .int (wd j3), .int (nI j3), .int (hs j3), .int (bfv j3)])) := (k235 _ (z_ne a236 a223 rfl)).trans a236
                    refine z_getN (v := .int (bfv j3)) C hz a238 zl4 mFNX5_69 (by decide) rfl dX5_rank_116 ?_
                    refine lv_iconst (v := 1) hx hb dX5_rank_119 (by decide) ?_
                    refine lv_iadd hx hb dX5_rank_120 ?_
                    refine z_putN (fs' := [.int (kd j3), .ref (pt j3), .long (wg j3), .int (wd j3), .int (nI j3), .int (hs j3), .int ((bfv j3) + 1)]) C hz hS a238 zl4 mFNX5_69 (by decide) rfl rfl rfl (Nat.le_of_ble_eq_true rfl) rfl dX5_rank_121 (fun H locs f239 a240 k241 hz hS => ?_)
                    have F242 : ∀ i9 : Nat, i9 < nn → f233 (fg i9) = some (.inr (4, [.int (kd i9), .ref (pt i9), .long (wg i9), .int (wd i9), .int (nI i9), .int (hs i9), .int (bfv i9)])) := fun i9 h9 => (k235 _ (z_ne (F224 i9 h9) a223 rfl)).trans (F224 i9 h9)
                    have F243 : ∀ i9 : Nat, i9 < nn → f239 (fg i9) = some (.inr (4, [.int (kd i9), .ref (pt i9), .long (wg i9), .int (wd i9), .int (nI i9), .int (hs i9), .int (va_up bfv j3 ((bfv j3) + 1) i9)])) := z_famW (T := fun i9 => .inr (4, [.int (kd i9), .ref (pt i9), .long (wg i9), .int (wd i9), .int (nI i9), .int (hs i9), .int (bfv i9)])) (T' := fun i9 => .inr (4, [.int (kd i9), .ref (pt i9), .long (wg i9), .int (wd i9), .int (nI i9), .int (hs i9), .int (va_up bfv j3 ((bfv j3) + 1) i9)])) F242 hj3 (by simp only [va_up_self]; exact a240) k241 (fun i9 h9 => by simp only [va_up_ne _ _ h9]) (fun i9 h9 => hfi i9 h9 j3 hj3)
                    refine lv_iinc (v := nI (kq - 1)) (lv' := [(4, .int (nI (kq - 1))), (0, .ref h), (1, .ref q), (2, .int (nI i))]) hx hb dX5_rank_124 hl (k := 3) rfl (z_dec (by omega)) (by decide) rfl (fun ls hl => ?_)
                    refine lv_goto (tgt := 86) hx hb dX5_rank_127 (by decide) ?_
                    have a244 : f239 ra = some (.inl (cy 3, 60, .inr (.inr (.inr (.inr (va_up grv kq (some (fg j3)))))))) := (k241 _ (z_ne a234 a238 rfl)).trans a234
                    have a245 : f233 q = some (.inr (4, [.int kdq, .ref pa, .long wgq, .int wdq, .int nuq, .int hsq, .int (nI i)])) := (k235 _ (z_ne a222 a223 rfl)).trans a222
                    have a246 : f239 q = some (.inr (4, [.int kdq, .ref pa, .long wgq, .int wdq, .int nuq, .int hsq, .int (nI i)])) := (k241 _ ((fun j9 h8 => Ne.symm (hq j9 h8)) j3 hj3)).trans a245
                    have a247 : f239 h = some (.inr (5, [.ref al, .ref ra, .int (nI nn)])) := (k241 _ (z_ne a237 a238 rfl)).trans a237
                    exact ih (kq - 1) (va_up grv kq (some (fg j3))) (va_up bfv j3 ((bfv j3) + 1)) _ _ _ _ (by omega) (by omega) (by omega) (z_shift hgrv (by omega) hj3) a247 a246 a244 F243 (by
                          intro b e hb n0 n1
                          have hb4 : fL219 b = some e := k220 b e hb n0 n1
                          have hb5 : f233 b = some e := (k235 b n0).trans hb4
                          have hb6 : f239 b = some e := (k241 b (n1 j3 hj3)).trans hb5
                          exact hb6) hz hS (lv_sub hl [1, 2, 3, 0] rfl)
              have a248 : f206 ra = some (.inl (cy 3, 60, .inr (.inr (.inr (.inr gr))))) := k209 _ _ a198 
              have a249 : f213 ra = some (.inl (cy 3, 60, .inr (.inr (.inr (.inr gr))))) := (k215 _ (z_ne a248 a212 rfl)).trans a248
              have F250 : ∀ i9 : Nat, i9 < nn → f206 (fg i9) = some (.inr (4, [.int (kd i9), .ref (pt i9), .long (wg i9), .int (wd i9), .int (nI i9), .int (hs i9), .int (bf i9)])) := fun i9 h9 => k209 _ _ (F200 i9 h9) 
              have F251 : ∀ i9 : Nat, i9 < nn → f213 (fg i9) = some (.inr (4, [.int (kd i9), .ref (pt i9), .long (wg i9), .int (wd i9), .int (nI i9), .int (hs i9), .int (bf i9)])) := fun i9 h9 => (k215 _ (hq i9 h9)).trans (F250 i9 h9)
              exact lp218 (nn + 1) nn gr bf _ _ _ _ (Nat.lt_succ_self _) (by omega) (by omega) (fun k' h' => hgr k' (by omega)) a217 a214 a249 F251 (fun b e hb n0 n1 => hb) hz hS (lv_sub hl [2, 3, 4, 0] rfl)
            · refine lv_iconst (v := 1) hx hb dX5_rank_51 (by decide) ?_
              refine lv_goto (tgt := 56) hx hb dX5_rank_52 (by decide) ?_
              refine lv_istore_n (lv' := [(3, .int 1), (0, .ref h), (1, .ref q), (2, .int (nI i))]) hx hb dX5_rank_56 rfl hl (by decide) rfl (fun ls hl => ?_)
              refine lv_aload_n hx hb dX5_rank_57 rfl (lv_at hl 2 rfl) ?_
              refine lv_iload_n hx hb dX5_rank_58 rfl (lv_at hl 0 rfl) ?_
              refine lv_if_eq (tgt := 76) hx hb dX5_rank_59 (by decide) (fun c252 => ?_) (fun c252 => ?_)
              · exact absurd c252 (by decide)
              refine lv_aload_n hx hb dX5_rank_62 rfl (lv_at hl 1 rfl) ?_
              have a253 : f206 h = some (.inr (5, [.ref al, .ref ra, .int (nI nn)])) := k209 _ _ a195 
              refine z_get (v := .ref ra) C hz a253 zl5 mFX5_17 (by decide) rfl dX5_rank_63 ?_
              refine lv_iload_n hx hb dX5_rank_66 rfl (lv_at hl 3 rfl) ?_
              refine lv_iconst (v := 1) hx hb dX5_rank_67 (by decide) ?_
              refine lv_isub hx hb dX5_rank_68 ?_
              refine lv_topi (fun y254 e255 => ?_)
              obtain rfl : y254 = nI (i - 1) := e255.trans (pk_sub (a := i) (b := 1) (by omega))
              have a256 : f206 ra = some (.inl (cy 3, 60, .inr (.inr (.inr (.inr gr))))) := k209 _ _ a198 
              refine z_aldq (i - 1) C hz a256 rfl rfl (by omega) (by omega) dX5_rank_69 ?_
              rw [hgj2]
              refine W.eq (g2 := F0 m 70 ls [.ref (fg j2), .ref q]) rfl ?_
              have a257 : f206 (fg j2) = some (.inr (4, [.int (kd j2), .ref (pt j2), .long (wg j2), .int (wd j2), .int (nI j2), .int (hs j2), .int (bf j2)])) := k209 _ _ a201 
              refine z_getN (v := .int (bf j2)) C hz a257 zl4 mFNX5_69 (by decide) rfl dX5_rank_70 ?_
              refine lv_goto (tgt := 77) hx hb dX5_rank_73 (by decide) ?_
              have a258 : f206 q = some (.inr (4, [.int kdq, .ref pa, .long wgq, .int wdq, .int nuq, .int hsq, .int bfq])) := k209 _ _ a202 
              refine z_putN (fs' := [.int kdq, .ref pa, .long wgq, .int wdq, .int nuq, .int hsq, .int (bf j2)]) C hz hS a258 zl4 mFNX5_69 (by decide) rfl rfl rfl (Nat.le_of_ble_eq_true rfl) rfl dX5_rank_77 (fun H locs f259 a260 k261 hz hS => ?_)
              refine lv_aload_n hx hb dX5_rank_80 rfl (lv_at hl 1 rfl) ?_
              have a262 : f259 h = some (.inr (5, [.ref al, .ref ra, .int (nI nn)])) := (k261 _ (z_ne a253 a258 rfl)).trans a253
              refine z_get (v := .int (nI nn)) C hz a262 zl5 mFX5_20 (by decide) rfl dX5_rank_81 ?_
              refine lv_istore (lv' := [(4, .int (nI nn)), (3, .int 1), (0, .ref h), (1, .ref q), (2, .int (nI i))]) hx hb dX5_rank_84 hl (by decide) rfl (fun ls hl => ?_)
              have lp263 : ∀ (n : Nat) (kq : Nat) (grv : Nat → Option Nat) (bfv : Nat → Int32) (fL264 : zM) (H : Heap) (locs : List Loc) (ls : Array Slot), (kq) < n → (i ≤ kq) → (kq ≤ nn) → (∀ k', (k' < nn ∨ (kq < k' ∧ k' ≤ nn)) → ∃ j, j < nn ∧ grv k' = some (fg j)) → fL264 h = some (.inr (5, [.ref al, .ref ra, .int (nI nn)])) → fL264 q = some (.inr (4, [.int kdq, .ref pa, .long wgq, .int wdq, .int nuq, .int hsq, .int (bf j2)])) → fL264 ra = some (.inl (cy 3, 60, .inr (.inr (.inr (.inr grv))))) → (∀ i9 : Nat, i9 < nn → fL264 (fg i9) = some (.inr (4, [.int (kd i9), .ref (pt i9), .long (wg i9), .int (wd i9), .int (nI i9), .int (hs i9), .int (bfv i9)]))) → (∀ (b : Nat) (e : va_E), f259 b = some e → b ≠ ra → (∀ j9 : Nat, j9 < nn → b ≠ fg j9) → fL264 b = some e) → zH D (zA f s.heap.size) fL264 H → va_S (zA f s.heap.size) s.heap H locs → lv_has ls 5 [(0, .ref h), (1, .ref q), (2, .int (nI i)), (4, .int (nI kq))] → W p l e rmX5_rank s m ([.ref h, .ref q] : List Value).toArray below meth c H locs 0 0 (MQ below (va_Qv (fun (f1 : zM) => ∃ (bq : Int32) (gr1 : Nat → Option Nat) (bf1 : Nat → Int32), (∀ k, k < nn + 1 → gr1 k = some q ∨ ∃ j, j < nn ∧ gr1 k = some (fg j)) ∧ f1 q = some (.inr (4, [.int kdq, .ref pa, .long wgq, .int wdq, .int nuq, .int hsq, .int bq])) ∧ f1 ra = some (.inl (cy 3, 60, .inr (.inr (.inr (.inr gr1))))) ∧ (∀ i9 : Nat, i9 < nn → f1 (fg i9) = some (.inr (4, [.int (kd i9), .ref (pt i9), .long (wg i9), .int (wd i9), .int (nI i9), .int (hs i9), .int (bf1 i9)]))) ∧ (∀ (b : Nat) (e : va_E), f b = some e → b ≠ q → b ≠ ra → (∀ j9 : Nat, j9 < nn → b ≠ fg j9) → f1 b = some e)) (zB D f s.heap.size) (zA f s.heap.size)) ([.ref h, .ref q] : List Value).toArray s rmX5_rank.cells rmX5_rank.slots (zA f s.heap.size)) (F0 m 86 ls []) := by
                intro n
                induction n with
                | zero => intro kq grv bfv fL264 H locs ls hmz; exact absurd hmz (Nat.not_lt_zero _)
                | succ n ih =>
                  intro kq grv bfv fL264 H locs ls hmz hik hkn hgrv a266 a267 a268 F269 k265 hz hS hl
                  refine lv_iload hx hb dX5_rank_86 (lv_at hl 3 rfl) ?_
                  refine lv_iload_n hx hb dX5_rank_88 rfl (lv_at hl 2 rfl) ?_
                  refine lv_icmp_le (tgt := 130) hx hb dX5_rank_89 (by decide) (fun c270 => ?_) (fun c270 => ?_)
                  · replace c270 : (kq ≤ i) := (nI_leI (a := kq) (b := i) (by omega) (by omega)).mp c270
                    refine lv_aload_n hx hb dX5_rank_130 rfl (lv_at hl 0 rfl) ?_
                    refine z_get (v := .ref ra) C hz a266 zl5 mFX5_17 (by decide) rfl dX5_rank_131 ?_
                    refine lv_iload_n hx hb dX5_rank_134 rfl (lv_at hl 2 rfl) ?_
                    refine lv_aload_n hx hb dX5_rank_135 rfl (lv_at hl 1 rfl) ?_
                    refine z_astq i C hz hS a268 rfl a267 zl4 rfl (by omega) (by omega) dX5_rank_136 (fun H locs f271 a272 k273 hz hS => ?_)
                    have a274 : f271 q = some (.inr (4, [.int kdq, .ref pa, .long wgq, .int wdq, .int nuq, .int hsq, .int (bf j2)])) := (k273 _ (z_ne a267 a268 rfl)).trans a267
                    have F275 : ∀ i9 : Nat, i9 < nn → f271 (fg i9) = some (.inr (4, [.int (kd i9), .ref (pt i9), .long (wg i9), .int (wd i9), .int (nI i9), .int (hs i9), .int (bfv i9)])) := fun i9 h9 => (k273 _ (z_ne (F269 i9 h9) a268 rfl)).trans (F269 i9 h9)
                    exact z_vret C hr hz hS ⟨(bf j2), (va_up grv i (some q)), bfv, (z_rk hgrv (by omega) (by omega) (by omega)), a274, a272, F275, (by
                          intro b e hb n0 n1 n2
                          have hb0 : fL2 b = some e := k3 b e hb 
                          have hb1 : f148 b = some e := k151 b e hb0 
                          have hb2 : f206 b = some e := k209 b e hb1 
                          have hb3 : f259 b = some e := (k261 b n0).trans hb2
                          have hb4 : fL264 b = some e := k265 b e hb3 n1 n2
                          have hb5 : f271 b = some e := (k273 b n1).trans hb4
                          exact hb5)⟩ (Nat.le_of_ble_eq_true rfl) (Nat.le_of_ble_eq_true rfl) dX5_rank_137
                  · replace c270 : ¬ (kq ≤ i) := fun h => c270 ((nI_leI (a := kq) (b := i) (by omega) (by omega)).mpr h)
                    refine lv_aload_n hx hb dX5_rank_92 rfl (lv_at hl 0 rfl) ?_
                    refine z_get (v := .ref ra) C hz a266 zl5 mFX5_17 (by decide) rfl dX5_rank_93 ?_
                    refine lv_iload hx hb dX5_rank_96 (lv_at hl 3 rfl) ?_
                    refine lv_aload_n hx hb dX5_rank_98 rfl (lv_at hl 0 rfl) ?_
                    refine z_get (v := .ref ra) C hz a266 zl5 mFX5_17 (by decide) rfl dX5_rank_99 ?_
                    refine lv_iload hx hb dX5_rank_102 (lv_at hl 3 rfl) ?_
                    refine lv_iconst (v := 1) hx hb dX5_rank_104 (by decide) ?_
                    refine lv_isub hx hb dX5_rank_105 ?_
                    refine lv_topi (fun y276 e277 => ?_)
                    obtain rfl : y276 = nI (kq - 1) := e277.trans (pk_sub (a := kq) (b := 1) (by omega))
                    obtain ⟨j3, hj3, hgj3⟩ := hgrv (kq - 1) (Or.inl (by omega))
                    refine z_aldq (kq - 1) C hz a268 rfl rfl (by omega) (by omega) dX5_rank_106 ?_
                    rw [hgj3]
                    refine W.eq (g2 := F0 m 107 ls [.ref (fg j3), .int (nI kq), .ref ra]) rfl ?_
                    have a281 : fL264 (fg j3) = some (.inr (4, [.int (kd j3), .ref (pt j3), .long (wg j3), .int (wd j3), .int (nI j3), .int (hs j3), .int (bfv j3)])) := F269 j3 hj3
                    refine z_astq kq C hz hS a268 rfl a281 zl4 rfl (by omega) (by omega) dX5_rank_107 (fun H locs f278 a279 k280 hz hS => ?_)
                    refine lv_aload_n hx hb dX5_rank_108 rfl (lv_at hl 0 rfl) ?_
                    have a282 : f278 h = some (.inr (5, [.ref al, .ref ra, .int (nI nn)])) := (k280 _ (z_ne a266 a268 rfl)).trans a266
                    refine z_get (v := .ref ra) C hz a282 zl5 mFX5_17 (by decide) rfl dX5_rank_109 ?_
                    refine lv_iload hx hb dX5_rank_112 (lv_at hl 3 rfl) ?_
                    refine z_aldq kq C hz a279 rfl rfl (by omega) (by omega) dX5_rank_114 ?_
                    rw [va_up_self]
                    refine W.eq (g2 := F0 m 115 ls [.ref (fg j3)]) rfl ?_
                    refine lv_dup hx hb dX5_rank_115 rfl ?_
                    have a283 : f278 (fg j3) = some (.inr (4, [.int (kd j3), .ref (pt j3), .long (wg j3), .int (wd j3), .int (nI j3), .int (hs j3), .int (bfv j3)])) := (k280 _ (z_ne a281 a268 rfl)).trans a281
                    refine z_getN (v := .int (bfv j3)) C hz a283 zl4 mFNX5_69 (by decide) rfl dX5_rank_116 ?_
                    refine lv_iconst (v := 1) hx hb dX5_rank_119 (by decide) ?_
                    refine lv_iadd hx hb dX5_rank_120 ?_
                    refine z_putN (fs' := [.int (kd j3), .ref (pt j3), .long (wg j3), .int (wd j3), .int (nI j3), .int (hs j3), .int ((bfv j3) + 1)]) C hz hS a283 zl4 mFNX5_69 (by decide) rfl rfl rfl (Nat.le_of_ble_eq_true rfl) rfl dX5_rank_121 (fun H locs f284 a285 k286 hz hS => ?_)
                    have F287 : ∀ i9 : Nat, i9 < nn → f278 (fg i9) = some (.inr (4, [.int (kd i9), .ref (pt i9), .long (wg i9), .int (wd i9), .int (nI i9), .int (hs i9), .int (bfv i9)])) := fun i9 h9 => (k280 _ (z_ne (F269 i9 h9) a268 rfl)).trans (F269 i9 h9)
                    have F288 : ∀ i9 : Nat, i9 < nn → f284 (fg i9) = some (.inr (4, [.int (kd i9), .ref (pt i9), .long (wg i9), .int (wd i9), .int (nI i9), .int (hs i9), .int (va_up bfv j3 ((bfv j3) + 1) i9)])) := z_famW (T := fun i9 => .inr (4, [.int (kd i9), .ref (pt i9), .long (wg i9), .int (wd i9), .int (nI i9), .int (hs i9), .int (bfv i9)])) (T' := fun i9 => .inr (4, [.int (kd i9), .ref (pt i9), .long (wg i9), .int (wd i9), .int (nI i9), .int (hs i9), .int (va_up bfv j3 ((bfv j3) + 1) i9)])) F287 hj3 (by simp only [va_up_self]; exact a285) k286 (fun i9 h9 => by simp only [va_up_ne _ _ h9]) (fun i9 h9 => hfi i9 h9 j3 hj3)
                    refine lv_iinc (v := nI (kq - 1)) (lv' := [(4, .int (nI (kq - 1))), (0, .ref h), (1, .ref q), (2, .int (nI i))]) hx hb dX5_rank_124 hl (k := 3) rfl (z_dec (by omega)) (by decide) rfl (fun ls hl => ?_)
                    refine lv_goto (tgt := 86) hx hb dX5_rank_127 (by decide) ?_
                    have a289 : f284 ra = some (.inl (cy 3, 60, .inr (.inr (.inr (.inr (va_up grv kq (some (fg j3)))))))) := (k286 _ (z_ne a279 a283 rfl)).trans a279
                    have a290 : f278 q = some (.inr (4, [.int kdq, .ref pa, .long wgq, .int wdq, .int nuq, .int hsq, .int (bf j2)])) := (k280 _ (z_ne a267 a268 rfl)).trans a267
                    have a291 : f284 q = some (.inr (4, [.int kdq, .ref pa, .long wgq, .int wdq, .int nuq, .int hsq, .int (bf j2)])) := (k286 _ ((fun j9 h8 => Ne.symm (hq j9 h8)) j3 hj3)).trans a290
                    have a292 : f284 h = some (.inr (5, [.ref al, .ref ra, .int (nI nn)])) := (k286 _ (z_ne a282 a283 rfl)).trans a282
                    exact ih (kq - 1) (va_up grv kq (some (fg j3))) (va_up bfv j3 ((bfv j3) + 1)) _ _ _ _ (by omega) (by omega) (by omega) (z_shift hgrv (by omega) hj3) a292 a291 a289 F288 (by
                          intro b e hb n0 n1
                          have hb4 : fL264 b = some e := k265 b e hb n0 n1
                          have hb5 : f278 b = some e := (k280 b n0).trans hb4
                          have hb6 : f284 b = some e := (k286 b (n1 j3 hj3)).trans hb5
                          exact hb6) hz hS (lv_sub hl [1, 2, 3, 0] rfl)
              have a293 : f259 ra = some (.inl (cy 3, 60, .inr (.inr (.inr (.inr gr))))) := (k261 _ (z_ne a256 a258 rfl)).trans a256
              have F294 : ∀ i9 : Nat, i9 < nn → f206 (fg i9) = some (.inr (4, [.int (kd i9), .ref (pt i9), .long (wg i9), .int (wd i9), .int (nI i9), .int (hs i9), .int (bf i9)])) := fun i9 h9 => k209 _ _ (F200 i9 h9) 
              have F295 : ∀ i9 : Nat, i9 < nn → f259 (fg i9) = some (.inr (4, [.int (kd i9), .ref (pt i9), .long (wg i9), .int (wd i9), .int (nI i9), .int (hs i9), .int (bf i9)])) := fun i9 h9 => (k261 _ (hq i9 h9)).trans (F294 i9 h9)
              exact lp263 (nn + 1) nn gr bf _ _ _ _ (Nat.lt_succ_self _) (by omega) (by omega) (fun k' h' => hgr k' (by omega)) a262 a260 a293 F295 (fun b e hb n0 n1 => hb) hz hS (lv_sub hl [2, 3, 4, 0] rfl)
        · refine lv_iinc (v := nI (i - 1)) (lv' := [(2, .int (nI (i - 1))), (0, .ref h), (1, .ref q)]) hx hb dX5_rank_25 hl (k := 2) rfl (z_dec (by omega)) (by decide) rfl (fun ls hl => ?_)
          refine lv_goto (tgt := 5) hx hb dX5_rank_28 (by decide) ?_
          have a296 : f148 h = some (.inr (5, [.ref al, .ref ra, .int (nI nn)])) := k151 _ _ a4 
          have a297 : f148 al = some (.inl (cy 3, 60, .inr (.inr (.inr (.inr ga))))) := k151 _ _ a5 
          have a298 : f148 ra = some (.inl (cy 3, 60, .inr (.inr (.inr (.inr gr))))) := k151 _ _ a6 
          have a299 : f148 q = some (.inr (4, [.int kdq, .ref pa, .long wgq, .int wdq, .int nuq, .int hsq, .int bfq])) := k151 _ _ a7 
          have a300 : f148 pa = some (.inl (cy 1, t, .inr (.inl gp))) := k151 _ _ a8 
          have F301 : ∀ i9 : Nat, i9 < nn → f148 (fg i9) = some (.inr (4, [.int (kd i9), .ref (pt i9), .long (wg i9), .int (wd i9), .int (nI i9), .int (hs i9), .int (bf i9)])) := fun i9 h9 => k151 _ _ (F9 i9 h9) 
          have F302 : ∀ i9 : Nat, i9 < nn → f148 (pt i9) = some (.inl (cy 1, (ln i9), .inr (.inl (pp i9)))) := fun i9 h9 => k151 _ _ (F10 i9 h9) 
          exact ih (i - 1) _ _ _ _ (by omega) (by omega) a296 a297 a298 a299 a300 F301 F302 (by
                intro b e hb 
                have hb0 : fL2 b = some e := k3 b e hb 
                have hb1 : f148 b = some e := k151 b e hb0 
                exact hb1) hz hS (lv_sub hl [1, 2, 0] rfl)
  exact lp1 (nn + 1) nn _ _ _ _ (Nat.lt_succ_self _) (by omega) p0 p1 p2 p3 p4 hF hP (fun b e hb => hb) hz hS (lv_sub hl [1, 2, 0] rfl)
theorem z_ga1 {ga : Nat → Option Nat} {fg : Nat → Nat} {n q : Nat} (h : ∀ i, i < n → ga i = some (fg i)) : ∀ i, i < n + 1 → va_up ga n (some q) i = some (va_up fg n q i) := by
  intro i hi
  by_cases e : i = n
  · subst e
    rw [va_up_self, va_up_self]
  · rw [va_up_ne _ _ e, va_up_ne _ _ e]
    exact h i (by omega)
theorem z_gr1 {gr : Nat → Option Nat} {fg : Nat → Nat} {n q : Nat} (h : ∀ k, k < n + 1 → gr k = some q ∨ ∃ j, j < n ∧ gr k = some (fg j)) : ∀ k, k < n + 1 → ∃ j, j < n + 1 ∧ gr k = some (va_up fg n q j) := by
  intro k hk
  rcases h k hk with e | ⟨j, hj, e⟩
  · exact ⟨n, by omega, by rw [e, va_up_self]⟩
  · exact ⟨j, by omega, by rw [e, va_up_ne _ _ (by omega)]⟩
theorem z_up1 {α : Type} {P : Nat → α → Prop} {g : Nat → α} {n : Nat} {x : α} (h : ∀ i, i < n → P i (g i)) (hx : P n x) : ∀ i, i < n + 1 → P i (va_up g n x i) := by
  intro i hi
  by_cases e : i = n
  · subst e
    rw [va_up_self]
    exact hx
  · rw [va_up_ne _ _ e]
    exact h i (by omega)
theorem z_up2 {α β : Type} {P : α → β → Prop} {g : Nat → α} {k : Nat → β} {n : Nat} {x : α} {y : β} (h : ∀ i, i < n → P (g i) (k i)) (hx : P x y) : ∀ i, i < n + 1 → P (va_up g n x i) (va_up k n y i) := by
  intro i hi
  by_cases e : i = n
  · subst e
    rw [va_up_self, va_up_self]
    exact hx
  · rw [va_up_ne _ _ e, va_up_ne _ _ e]
    exact h i (by omega)
theorem z_inj1 {fg : Nat → Nat} {n q : Nat} (h : ∀ i, i < n → ∀ j, j < n → fg i = fg j → i = j) (hq : ∀ j, j < n → fg j ≠ q) : ∀ i, i < n + 1 → ∀ j, j < n + 1 → va_up fg n q i = va_up fg n q j → i = j := by
  intro i hi j hj e
  by_cases a : i = n
  · by_cases b : j = n
    · omega
    · subst a
      rw [va_up_self, va_up_ne _ _ b] at e
      exact absurd e.symm (hq j (by omega))
  · by_cases b : j = n
    · subst b
      rw [va_up_self, va_up_ne _ _ a] at e
      exact absurd e (hq i (by omega))
    · rw [va_up_ne _ _ a, va_up_ne _ _ b] at e
      exact h i (by omega) j (by omega) e
theorem z_famC {f f1 : zM} {n : Nat} {ad : Nat → Nat} {T T' : Nat → va_E} {j : Nat} (hj : j < n) (hw : f1 (ad j) = some (T' j)) (hk : ∀ i, i < n → ad i ≠ ad j → f1 (ad i) = some (T i)) (hT : ∀ i, i ≠ j → T' i = T i) (inj : ∀ i, i < n → ad i = ad j → i = j) : ∀ i, i < n → f1 (ad i) = some (T' i) := by
  intro i hi
  by_cases hij : i = j
  · subst hij
    exact hw
  · rw [hT i hij]
    exact hk i hi (fun q => hij (inj i hi q))
theorem z_hon (x : Int32) (n : Nat) : x = (-1) ∨ (∃ j, j < n ∧ x = nI j) ∨ (¬ x = (-1) ∧ ∀ j, j < n → x ≠ nI j) := by
  by_cases h : x = (-1)
  · exact Or.inl h
  · rcases z_findi x n with h2 | h2
    · exact Or.inr (Or.inl h2)
    · exact Or.inr (Or.inr ⟨h, h2⟩)
theorem z_ixl {x : Int32} {n : Nat} (h1 : ¬ x < 0) (h2 : ¬ nI n ≤ x) (hn : n < 2 ^ 31) : ∃ j, j < n ∧ x = nI j := by
  rcases pk_ix x (n := n) hn with h9 | h9 | h9
  · exact absurd h9 h1
  · exact absurd h9 h2
  · exact h9
theorem z_place {x : Int32} {t : Nat} (ht : t < 2 ^ 31) (h : ¬ (if x < 0 then (0 : Int32) else if nI t - 1 ≤ x then 0 else 1) = 0) : ∃ j, x = nI j ∧ j + 1 < t := by
  by_cases h0 : x < 0
  · exact absurd (by rw [if_pos h0]) h
  · by_cases h1 : nI t - 1 ≤ x
    · exact absurd (by rw [if_neg h0, if_pos h1]) h
    · have ht0 : t ≠ 0 := by
        rintro rfl
        apply h1
        rw [Int32.le_iff_toInt_le]
        rw [Int32.lt_iff_toInt_lt] at h0
        have e0 : (0 : Int32).toInt = 0 := by decide
        have e1 : (nI 0 - 1).toInt = -1 := by decide
        rw [e0] at h0
        rw [e1]
        omega
      have e : nI t - 1 = nI (t - 1) := pk_sub (a := t) (b := 1) (by omega)
      rw [e] at h1
      obtain ⟨j, hj, hx⟩ := z_ixl h0 h1 (by omega)
      exact ⟨j, hx, by omega⟩
theorem z_sq1 {sq : Nat → Nat} {n j : Nat} (h : ∀ i, i < 4 → sq i ≤ n) (hj : j < 4) : ∀ i, i < 4 → va_up sq j (sq j + 1) i ≤ n + 1 := by
  intro i hi
  by_cases e : i = j
  · subst e
    rw [va_up_self]
    have := h i hi
    omega
  · rw [va_up_ne _ _ e]
    have := h i hi
    omega
theorem z_sq2 {sq : Nat → Nat} {n j : Nat} (h : ∀ i, i < 4 → sq i ≤ n) (hj : j < 4) : ∀ i, i < 4 → va_up sq j (sq j - 1) i ≤ n := by
  intro i hi
  by_cases e : i = j
  · subst e
    rw [va_up_self]
    have := h i hi
    omega
  · rw [va_up_ne _ _ e]
    exact h i hi
abbrev rmX5_add : Room := { frames := 5, cells := 0, slots := 0, locals := 119 }
set_option maxHeartbeats 4000000 in
set_option maxRecDepth 100000 in
theorem k_X5_add (l : Launch) (D : va_G) (cy : Nat → ClassId) (f : zM) (h : Nat) (al : Nat) (ra : Nat) (ga : Nat → Option Nat) (gr : Nat → Option Nat) (nn : Nat) (fg : Nat → Nat) (pt : Nat → Nat) (kd : Nat → Int32) (ln : Nat → Nat) (pp : Nat → Nat → Int64) (wg : Nat → Int64) (wd : Nat → Int32) (hs : Nat → Int32) (bf : Nat → Int32) (q : Nat) (kdq : Int32) (pa : Nat) (wgq : Int64) (wdq : Int32) (nuq : Int32) (hsq : Int32) (bfq : Int32) (t : Nat) (gp : Nat → Int64) (p0 : f h = some (.inr (5, [.ref al, .ref ra, .int (nI nn)]))) (p1 : f al = some (.inl (cy 3, 60, .inr (.inr (.inr (.inr ga)))))) (p2 : f ra = some (.inl (cy 3, 60, .inr (.inr (.inr (.inr gr)))))) (p3 : f q = some (.inr (4, [.int kdq, .ref pa, .long wgq, .int wdq, .int nuq, .int hsq, .int bfq]))) (p4 : f pa = some (.inl (cy 1, t, .inr (.inl gp)))) (hF : ∀ i9 : Nat, i9 < nn → f (fg i9) = some (.inr (4, [.int (kd i9), .ref (pt i9), .long (wg i9), .int (wd i9), .int (nI i9), .int (hs i9), .int (bf i9)]))) (hP : ∀ i9 : Nat, i9 < nn → f (pt i9) = some (.inl (cy 1, (ln i9), .inr (.inl (pp i9))))) (hn59 : nn < 60) (hga : ∀ i, i < nn → ga i = some (fg i)) (hgr : ∀ k, k < nn → ∃ j, j < nn ∧ gr k = some (fg j)) (hln : ∀ i, i < nn → ln i ≤ 15) (hk5 : ∀ i, i < nn → kd i = 5 → 3 ≤ ln i) (hfi : ∀ i, i < nn → ∀ j, j < nn → fg i = fg j → i = j) (hq : ∀ j, j < nn → fg j ≠ q) (ht : t ≤ 15) (h5q : kdq = 5 → 3 ≤ t) (har : al ≠ ra) (hrf : kdq = 4 → ∀ k, k < t → gp k = (-1) ∨ ∃ j9, j9 < nn ∧ gp k = lN j9) : zCi l D cy yX5_add cX5_add 2 (Option.some Jvm.ClassFile.FieldType.int) rmX5_add [.ref h, .ref q] f (fun (r : Int32) (f1 : zM) => ∃ (hq1 : Int32) (bq : Int32) (gr1 : Nat → Option Nat) (bf1 : Nat → Int32), r = (nI nn) ∧ (hq1 = zHash kdq nn t gp hs) ∧ (∀ k, k < nn + 1 → gr1 k = some q ∨ ∃ j, j < nn ∧ gr1 k = some (fg j)) ∧ f1 h = some (.inr (5, [.ref al, .ref ra, .int (nI (nn + 1))])) ∧ f1 al = some (.inl (cy 3, 60, .inr (.inr (.inr (.inr (va_up ga nn (some q))))))) ∧ f1 ra = some (.inl (cy 3, 60, .inr (.inr (.inr (.inr gr1))))) ∧ (∀ i9 : Nat, i9 < (nn + 1) → f1 ((va_up fg nn q) i9) = some (.inr (4, [.int (va_up kd nn kdq i9), .ref (va_up pt nn pa i9), .long (va_up wg nn wgq i9), .int (va_up wd nn wdq i9), .int (nI i9), .int (va_up hs nn hq1 i9), .int (va_up bf1 nn bq i9)]))) ∧ (∀ i9 : Nat, i9 < (nn + 1) → f1 ((va_up pt nn pa) i9) = some (.inl (cy 1, (va_up ln nn t i9), .inr (.inl (va_up pp nn gp i9))))) ∧ (∀ (b : Nat) (e : va_E), f b = some e → b ≠ h → b ≠ al → b ≠ ra → b ≠ q → (∀ j9 : Nat, j9 < nn → b ≠ fg j9) → f1 b = some e)) := by
  intro sz
  refine z_body (by decide +kernel) (Nat.le_of_ble_eq_true rfl) ?_
  intro p e s m below meth c ls C hr hin hsz hz hl
  subst hsz
  have hx := C.1
  have hb := C.2.1
  have hA : ∀ q, s.heap.size ≤ q → zA f s.heap.size q := fun q h => Or.inr h
  have hS : va_S (zA f s.heap.size) s.heap s.heap [] := va_S.rf
  have hl : lv_has ls 2 [(0, .ref h), (1, .ref q)] := hl
  refine lv_aload_n hx hb dX5_add_0 rfl (lv_at hl 1 rfl) ?_
  refine lv_aload_n hx hb dX5_add_1 rfl (lv_at hl 0 rfl) ?_
  refine z_get (v := .int (nI nn)) C hz p0 zl5 mFX5_20 (by decide) rfl dX5_add_2 ?_
  refine z_putN (fs' := [.int kdq, .ref pa, .long wgq, .int wdq, .int (nI nn), .int hsq, .int bfq]) C hz hS p3 zl4 mFNX5_28 (by decide) rfl rfl rfl (Nat.le_of_ble_eq_true rfl) rfl dX5_add_5 (fun H locs f1 a2 k3 hz hS => ?_)
  refine lv_aload_n hx hb dX5_add_8 rfl (lv_at hl 1 rfl) ?_
  refine lv_aload_n hx hb dX5_add_9 rfl (lv_at hl 0 rfl) ?_
  refine lv_aload_n hx hb dX5_add_10 rfl (lv_at hl 1 rfl) ?_
  have a4 : f1 h = some (.inr (5, [.ref al, .ref ra, .int (nI nn)])) := (k3 _ (z_ne p0 p3 rfl)).trans p0
  have a5 : f1 al = some (.inl (cy 3, 60, .inr (.inr (.inr (.inr ga))))) := (k3 _ (z_ne p1 p3 rfl)).trans p1
  have a6 : f1 pa = some (.inl (cy 1, t, .inr (.inl gp))) := (k3 _ (z_neO p4 p3 rfl)).trans p4
  have F7 : ∀ i9 : Nat, i9 < nn → f1 (fg i9) = some (.inr (4, [.int (kd i9), .ref (pt i9), .long (wg i9), .int (wd i9), .int (nI i9), .int (hs i9), .int (bf i9)])) := fun i9 h9 => (k3 _ (hq i9 h9)).trans (hF i9 h9)
  refine z_callVi (As := [.ref q]) C hz hS hA hl (k_X5_hashOf l D cy f1 h al ra ga nn fg pt kd ln pp wg wd hs bf q kdq pa wgq wdq (nI nn) hsq bfq t gp a4 a5 a2 a6 F7 (by omega) hga (by omega) rfl hrf) zyX5_hashOf mMX5_31 a4 zl5 rfl rfl (Nat.le_of_ble_eq_true rfl) ⟨Nat.le_of_ble_eq_true rfl, Nat.le_of_ble_eq_true rfl⟩ ⟨Nat.le_of_ble_eq_true rfl, Nat.le_of_ble_eq_true rfl⟩ dX5_add_11 (fun r f8 H locs h9 hz hS => ?_)
  obtain ⟨rfl, k10⟩ := h9
  have a11 : f8 q = some (.inr (4, [.int kdq, .ref pa, .long wgq, .int wdq, .int (nI nn), .int hsq, .int bfq])) := k10 _ _ a2 
  refine z_putN (fs' := [.int kdq, .ref pa, .long wgq, .int wdq, .int (nI nn), .int (zHash kdq nn t gp hs), .int bfq]) C hz hS a11 zl4 mFNX5_35 (by decide) rfl rfl rfl (Nat.le_of_ble_eq_true rfl) rfl dX5_add_14 (fun H locs f12 a13 k14 hz hS => ?_)
  refine lv_aload_n hx hb dX5_add_17 rfl (lv_at hl 0 rfl) ?_
  refine lv_aload_n hx hb dX5_add_18 rfl (lv_at hl 1 rfl) ?_
  have a15 : f8 h = some (.inr (5, [.ref al, .ref ra, .int (nI nn)])) := k10 _ _ a4 
  have a16 : f12 h = some (.inr (5, [.ref al, .ref ra, .int (nI nn)])) := (k14 _ (z_ne a15 a11 rfl)).trans a15
  have a17 : f8 al = some (.inl (cy 3, 60, .inr (.inr (.inr (.inr ga))))) := k10 _ _ a5 
  have a18 : f12 al = some (.inl (cy 3, 60, .inr (.inr (.inr (.inr ga))))) := (k14 _ (z_ne a17 a11 rfl)).trans a17
  have a19 : f1 ra = some (.inl (cy 3, 60, .inr (.inr (.inr (.inr gr))))) := (k3 _ (z_ne p2 p3 rfl)).trans p2
  have a20 : f8 ra = some (.inl (cy 3, 60, .inr (.inr (.inr (.inr gr))))) := k10 _ _ a19 
  have a21 : f12 ra = some (.inl (cy 3, 60, .inr (.inr (.inr (.inr gr))))) := (k14 _ (z_ne a20 a11 rfl)).trans a20
  have a22 : f8 pa = some (.inl (cy 1, t, .inr (.inl gp))) := k10 _ _ a6 
  have a23 : f12 pa = some (.inl (cy 1, t, .inr (.inl gp))) := (k14 _ (z_neO a22 a11 rfl)).trans a22
  have F24 : ∀ i9 : Nat, i9 < nn → f8 (fg i9) = some (.inr (4, [.int (kd i9), .ref (pt i9), .long (wg i9), .int (wd i9), .int (nI i9), .int (hs i9), .int (bf i9)])) := fun i9 h9 => k10 _ _ (F7 i9 h9) 
  have F25 : ∀ i9 : Nat, i9 < nn → f12 (fg i9) = some (.inr (4, [.int (kd i9), .ref (pt i9), .long (wg i9), .int (wd i9), .int (nI i9), .int (hs i9), .int (bf i9)])) := fun i9 h9 => (k14 _ (hq i9 h9)).trans (F24 i9 h9)
  have F26 : ∀ i9 : Nat, i9 < nn → f1 (pt i9) = some (.inl (cy 1, (ln i9), .inr (.inl (pp i9)))) := fun i9 h9 => (k3 _ (z_neO (hP i9 h9) p3 rfl)).trans (hP i9 h9)
  have F27 : ∀ i9 : Nat, i9 < nn → f8 (pt i9) = some (.inl (cy 1, (ln i9), .inr (.inl (pp i9)))) := fun i9 h9 => k10 _ _ (F26 i9 h9) 
  have F28 : ∀ i9 : Nat, i9 < nn → f12 (pt i9) = some (.inl (cy 1, (ln i9), .inr (.inl (pp i9)))) := fun i9 h9 => (k14 _ (z_neO (F27 i9 h9) a11 rfl)).trans (F27 i9 h9)
  refine z_callVv (As := [.ref q]) C hz hS hA hl (k_X5_rank l D cy f12 h al ra ga gr nn fg pt kd ln pp wg wd hs bf q kdq pa wgq wdq (nI nn) (zHash kdq nn t gp hs) bfq t gp a16 a18 a21 a13 a23 F25 F28 hn59 hga hgr hln hk5 hfi hq ht h5q har) zyX5_rank mMX5_38 a16 zl5 rfl rfl (Nat.le_of_ble_eq_true rfl) ⟨Nat.le_of_ble_eq_true rfl, Nat.le_of_ble_eq_true rfl⟩ ⟨Nat.le_of_ble_eq_true rfl, Nat.le_of_ble_eq_true rfl⟩ dX5_add_19 (fun  f29 H locs h30 hz hS => ?_)
  obtain ⟨bq_31, gr_32, bf_33, p34, a35, a36, F37, k38⟩ := h30
  refine lv_aload_n hx hb dX5_add_22 rfl (lv_at hl 0 rfl) ?_
  have a39 : f29 h = some (.inr (5, [.ref al, .ref ra, .int (nI nn)])) := k38 _ _ a16 (z_ne a16 a13 rfl) (z_ne a16 a21 rfl) (fun j9 h8 => (z_ne a16 (F25 j9 h8) rfl))
  refine z_get (v := .ref al) C hz a39 zl5 mFX5_13 (by decide) rfl dX5_add_23 ?_
  refine lv_aload_n hx hb dX5_add_26 rfl (lv_at hl 0 rfl) ?_
  refine z_get (v := .int (nI nn)) C hz a39 zl5 mFX5_20 (by decide) rfl dX5_add_27 ?_
  refine lv_aload_n hx hb dX5_add_30 rfl (lv_at hl 1 rfl) ?_
  have a40 : f29 al = some (.inl (cy 3, 60, .inr (.inr (.inr (.inr ga))))) := k38 _ _ a18 (z_ne a18 a13 rfl) har (fun j9 h8 => (z_ne a18 (F25 j9 h8) rfl))
  refine z_astq nn C hz hS a40 rfl a35 zl4 rfl (by omega) (by omega) dX5_add_31 (fun H locs f41 a42 k43 hz hS => ?_)
  refine lv_aload_n hx hb dX5_add_32 rfl (lv_at hl 0 rfl) ?_
  refine lv_dup hx hb dX5_add_33 rfl ?_
  have a44 : f41 h = some (.inr (5, [.ref al, .ref ra, .int (nI nn)])) := (k43 _ (z_ne a39 a40 rfl)).trans a39
  refine z_get (v := .int (nI nn)) C hz a44 zl5 mFX5_20 (by decide) rfl dX5_add_34 ?_
  refine lv_iconst (v := 1) hx hb dX5_add_37 (by decide) ?_
  refine lv_iadd hx hb dX5_add_38 ?_
  refine lv_topi (fun y45 e46 => ?_)
  obtain rfl : y45 = nI (nn + 1) := e46.trans (nI_1 nn)
  refine z_put (fs' := [.ref al, .ref ra, .int (nI (nn + 1))]) C hz hS a44 zl5 mFX5_20 (by decide) rfl rfl rfl (Nat.le_of_ble_eq_true rfl) rfl dX5_add_39 (fun H locs f47 a48 k49 hz hS => ?_)
  refine lv_aload_n hx hb dX5_add_42 rfl (lv_at hl 1 rfl) ?_
  have a50 : f41 q = some (.inr (4, [.int kdq, .ref pa, .long wgq, .int wdq, .int (nI nn), .int (zHash kdq nn t gp hs), .int bq_31])) := (k43 _ (z_ne a35 a40 rfl)).trans a35
  have a51 : f47 q = some (.inr (4, [.int kdq, .ref pa, .long wgq, .int wdq, .int (nI nn), .int (zHash kdq nn t gp hs), .int bq_31])) := (k49 _ (z_ne a50 a44 rfl)).trans a50
  refine z_getN (v := .int (nI nn)) C hz a51 zl4 mFNX5_28 (by decide) rfl dX5_add_43 ?_
  have a52 : f41 ra = some (.inl (cy 3, 60, .inr (.inr (.inr (.inr gr_32))))) := (k43 _ (Ne.symm har)).trans a36
  have a53 : f47 ra = some (.inl (cy 3, 60, .inr (.inr (.inr (.inr gr_32))))) := (k49 _ (z_ne a52 a44 rfl)).trans a52
  have F54 : ∀ i9 : Nat, i9 < nn → f41 (fg i9) = some (.inr (4, [.int (kd i9), .ref (pt i9), .long (wg i9), .int (wd i9), .int (nI i9), .int (hs i9), .int (bf_33 i9)])) := fun i9 h9 => (k43 _ (z_ne (F37 i9 h9) a40 rfl)).trans (F37 i9 h9)
  have F55 : ∀ i9 : Nat, i9 < nn → f47 (fg i9) = some (.inr (4, [.int (kd i9), .ref (pt i9), .long (wg i9), .int (wd i9), .int (nI i9), .int (hs i9), .int (bf_33 i9)])) := fun i9 h9 => (k49 _ (z_ne (F54 i9 h9) a44 rfl)).trans (F54 i9 h9)
  have a56 : f47 al = some (.inl (cy 3, 60, .inr (.inr (.inr (.inr (va_up ga nn (some q))))))) := (k49 _ (z_ne a42 a44 rfl)).trans a42
  have F57 : ∀ i9 : Nat, i9 < nn → f29 (pt i9) = some (.inl (cy 1, (ln i9), .inr (.inl (pp i9)))) := fun i9 h9 => k38 _ _ (F28 i9 h9) (z_neO (F28 i9 h9) a13 rfl) (z_neA (F28 i9 h9) a21 rfl) (fun j9 h8 => (z_neO (F28 i9 h9) (F25 j9 h8) rfl))
  have F58 : ∀ i9 : Nat, i9 < nn → f41 (pt i9) = some (.inl (cy 1, (ln i9), .inr (.inl (pp i9)))) := fun i9 h9 => (k43 _ (z_neA (F57 i9 h9) a40 rfl)).trans (F57 i9 h9)
  have F59 : ∀ i9 : Nat, i9 < nn → f47 (pt i9) = some (.inl (cy 1, (ln i9), .inr (.inl (pp i9)))) := fun i9 h9 => (k49 _ (z_neO (F58 i9 h9) a44 rfl)).trans (F58 i9 h9)
  have a60 : f29 pa = some (.inl (cy 1, t, .inr (.inl gp))) := k38 _ _ a23 (z_neO a23 a13 rfl) (z_neA a23 a21 rfl) (fun j9 h8 => (z_neO a23 (F25 j9 h8) rfl))
  have a61 : f41 pa = some (.inl (cy 1, t, .inr (.inl gp))) := (k43 _ (z_neA a60 a40 rfl)).trans a60
  have a62 : f47 pa = some (.inl (cy 1, t, .inr (.inl gp))) := (k49 _ (z_neO a61 a44 rfl)).trans a61
  exact z_iret C hr rfl hz hS ⟨(zHash kdq nn t gp hs), bq_31, gr_32, bf_33, rfl, rfl, p34, a48, a56, a53, (z_famP (n := nn) (T := fun i9 => .inr (4, [.int (kd i9), .ref (pt i9), .long (wg i9), .int (wd i9), .int (nI i9), .int (hs i9), .int (bf_33 i9)])) (T' := fun i9 => .inr (4, [.int (va_up kd nn kdq i9), .ref (va_up pt nn pa i9), .long (va_up wg nn wgq i9), .int (va_up wd nn wdq i9), .int (nI i9), .int (va_up hs nn (zHash kdq nn t gp hs) i9), .int (va_up bf_33 nn bq_31 i9)])) F55 (by simp only [va_up_self]; exact a51) (fun i9 h9 => va_up_ne _ _ (by omega)) (va_up_self _ _ _) (fun i9 h9 => by simp only [va_up_ne _ _ (show i9 ≠ nn by omega)])), (z_famP (n := nn) (T := fun i9 => .inl (cy 1, (ln i9), .inr (.inl (pp i9)))) (T' := fun i9 => .inl (cy 1, (va_up ln nn t i9), .inr (.inl (va_up pp nn gp i9)))) F59 (by simp only [va_up_self]; exact a62) (fun i9 h9 => va_up_ne _ _ (by omega)) (va_up_self _ _ _) (fun i9 h9 => by simp only [va_up_ne _ _ (show i9 ≠ nn by omega)])), (by
        intro b e hb n0 n1 n2 n3 n4
        have hb0 : f1 b = some e := (k3 b n3).trans hb
        have hb1 : f8 b = some e := k10 b e hb0 
        have hb2 : f12 b = some e := (k14 b n3).trans hb1
        have hb3 : f29 b = some e := k38 b e hb2 n3 n2 n4
        have hb4 : f41 b = some e := (k43 b n1).trans hb3
        have hb5 : f47 b = some e := (k49 b n0).trans hb4
        exact hb5)⟩ (Nat.le_of_ble_eq_true rfl) (Nat.le_of_ble_eq_true rfl) dX5_add_46
abbrev rmX5_weighPairs : Room := { frames := 2, cells := 0, slots := 0, locals := 43 }
set_option maxHeartbeats 4000000 in
set_option maxRecDepth 100000 in
theorem k_X5_weighPairs (l : Launch) (D : va_G) (cy : Nat → ClassId) (f : zM) (h : Nat) (al : Nat) (ra : Nat) (ga : Nat → Option Nat) (nn : Nat) (fg : Nat → Nat) (pt : Nat → Nat) (kd : Nat → Int32) (ln : Nat → Nat) (pp : Nat → Nat → Int64) (wg : Nat → Int64) (wd : Nat → Int32) (hs : Nat → Int32) (bf : Nat → Int32) (p0 : f h = some (.inr (5, [.ref al, .ref ra, .int (nI nn)]))) (p1 : f al = some (.inl (cy 3, 60, .inr (.inr (.inr (.inr ga)))))) (hF : ∀ i9 : Nat, i9 < nn → f (fg i9) = some (.inr (4, [.int (kd i9), .ref (pt i9), .long (wg i9), .int (wd i9), .int (nI i9), .int (hs i9), .int (bf i9)]))) (hP : ∀ i9 : Nat, i9 < nn → f (pt i9) = some (.inl (cy 1, (ln i9), .inr (.inl (pp i9))))) (hn60 : nn ≤ 60) (hga : ∀ i, i < nn → ga i = some (fg i)) (hfi : ∀ i, i < nn → ∀ j, j < nn → fg i = fg j → i = j) (hk4 : ∀ i, i < nn → kd i = 4 → 2 ≤ ln i) (hln : ∀ i, i < nn → ln i ≤ 15) : zCv l D cy yX5_weighPairs cX5_weighPairs 5 none rmX5_weighPairs [.ref h] f (fun (f1 : zM) => ∃ (wg1 : Nat → Int64), (∀ i9 : Nat, i9 < nn → f1 (fg i9) = some (.inr (4, [.int (kd i9), .ref (pt i9), .long (wg1 i9), .int (wd i9), .int (nI i9), .int (hs i9), .int (bf i9)]))) ∧ (∀ (b : Nat) (e : va_E), f b = some e → (∀ j9 : Nat, j9 < nn → b ≠ fg j9) → f1 b = some e)) := by
  intro sz
  refine z_body (by decide +kernel) (Nat.le_of_ble_eq_true rfl) ?_
  intro p e s m below meth c ls C hr hin hsz hz hl
  subst hsz
  have hx := C.1
  have hb := C.2.1
  have hA : ∀ q, s.heap.size ≤ q → zA f s.heap.size q := fun q h => Or.inr h
  have hS : va_S (zA f s.heap.size) s.heap s.heap [] := va_S.rf
  have hl : lv_has ls 5 [(0, .ref h)] := hl
  refine lv_iconst (v := 0) hx hb dX5_weighPairs_0 (by decide) ?_
  refine lv_istore_n (lv' := [(1, .int 0), (0, .ref h)]) hx hb dX5_weighPairs_1 rfl hl (by decide) rfl (fun ls hl => ?_)
  have lp1 : ∀ (n : Nat) (i : Nat) (wgv : Nat → Int64) (fL2 : zM) (H : Heap) (locs : List Loc) (ls : Array Slot), (nn - i) < n → (i ≤ nn) → fL2 h = some (.inr (5, [.ref al, .ref ra, .int (nI nn)])) → fL2 al = some (.inl (cy 3, 60, .inr (.inr (.inr (.inr ga))))) → (∀ i9 : Nat, i9 < nn → fL2 (fg i9) = some (.inr (4, [.int (kd i9), .ref (pt i9), .long (wgv i9), .int (wd i9), .int (nI i9), .int (hs i9), .int (bf i9)]))) → (∀ i9 : Nat, i9 < nn → fL2 (pt i9) = some (.inl (cy 1, (ln i9), .inr (.inl (pp i9))))) → (∀ (b : Nat) (e : va_E), f b = some e → (∀ j9 : Nat, j9 < nn → b ≠ fg j9) → fL2 b = some e) → zH D (zA f s.heap.size) fL2 H → va_S (zA f s.heap.size) s.heap H locs → lv_has ls 5 [(0, .ref h), (1, .int (nI i))] → W p l e rmX5_weighPairs s m ([.ref h] : List Value).toArray below meth c H locs 0 0 (MQ below (va_Qv (fun (f1 : zM) => ∃ (wg1 : Nat → Int64), (∀ i9 : Nat, i9 < nn → f1 (fg i9) = some (.inr (4, [.int (kd i9), .ref (pt i9), .long (wg1 i9), .int (wd i9), .int (nI i9), .int (hs i9), .int (bf i9)]))) ∧ (∀ (b : Nat) (e : va_E), f b = some e → (∀ j9 : Nat, j9 < nn → b ≠ fg j9) → f1 b = some e)) (zB D f s.heap.size) (zA f s.heap.size)) ([.ref h] : List Value).toArray s rmX5_weighPairs.cells rmX5_weighPairs.slots (zA f s.heap.size)) (F0 m 2 ls []) := by
    intro n
    induction n with
    | zero => intro i wgv fL2 H locs ls hmz; exact absurd hmz (Nat.not_lt_zero _)
    | succ n ih =>
      intro i wgv fL2 H locs ls hmz hi a4 a5 F6 F7 k3 hz hS hl
      refine lv_iload_n hx hb dX5_weighPairs_2 rfl (lv_at hl 1 rfl) ?_
      refine lv_aload_n hx hb dX5_weighPairs_3 rfl (lv_at hl 0 rfl) ?_
      refine z_get (v := .int (nI nn)) C hz a4 zl5 mFX5_20 (by decide) rfl dX5_weighPairs_4 ?_
      refine lv_icmp_ge (tgt := 85) hx hb dX5_weighPairs_7 (by decide) (fun c8 => ?_) (fun c8 => ?_)
      · replace c8 : (nn ≤ i) := (nI_leI (a := nn) (b := i) (by omega) (by omega)).mp c8
        exact z_vret C hr hz hS ⟨wgv, F6, (by
              intro b e hb n0
              have hb0 : fL2 b = some e := k3 b e hb n0
              exact hb0)⟩ (Nat.le_of_ble_eq_true rfl) (Nat.le_of_ble_eq_true rfl) dX5_weighPairs_85
      · replace c8 : ¬ (nn ≤ i) := fun h => c8 ((nI_leI (a := nn) (b := i) (by omega) (by omega)).mpr h)
        refine lv_aload_n hx hb dX5_weighPairs_10 rfl (lv_at hl 0 rfl) ?_
        refine z_get (v := .ref al) C hz a4 zl5 mFX5_13 (by decide) rfl dX5_weighPairs_11 ?_
        refine lv_iload_n hx hb dX5_weighPairs_14 rfl (lv_at hl 1 rfl) ?_
        refine z_aldq i C hz a5 rfl rfl (by omega) (by omega) dX5_weighPairs_15 ?_
        rw [hga i (by omega)]
        refine W.eq (g2 := F0 m 16 ls [.ref (fg i)]) rfl ?_
        refine lv_astore_n (lv' := [(2, .ref (fg i)), (0, .ref h), (1, .int (nI i))]) hx hb dX5_weighPairs_16 rfl hl (by decide) rfl (fun ls hl => ?_)
        refine lv_aload_n hx hb dX5_weighPairs_17 rfl (lv_at hl 0 rfl) ?_
        have a9 : fL2 (fg i) = some (.inr (4, [.int (kd i), .ref (pt i), .long (wgv i), .int (wd i), .int (nI i), .int (hs i), .int (bf i)])) := F6 i (show i < nn by omega)
        refine z_getN (v := .int (kd i)) C hz a9 zl4 mFNX5_42 (by decide) rfl dX5_weighPairs_18 ?_
        refine lv_iconst (v := 4) hx hb dX5_weighPairs_21 (by decide) ?_
        refine lv_icmp_ne (tgt := 79) hx hb dX5_weighPairs_22 (by decide) (fun c10 => ?_) (fun c10 => ?_)
        · refine lv_iinc (v := nI (i + 1)) (lv' := [(1, .int (nI (i + 1))), (2, .ref (fg i)), (0, .ref h)]) hx hb dX5_weighPairs_79 hl (k := 2) rfl (nI_1 i) (by decide) rfl (fun ls hl => ?_)
          refine lv_goto (tgt := 2) hx hb dX5_weighPairs_82 (by decide) ?_
          exact ih (i + 1) wgv _ _ _ _ (by omega) (by omega) a4 a5 F6 F7 (by
                intro b e hb n0
                have hb0 : fL2 b = some e := k3 b e hb n0
                exact hb0) hz hS (lv_sub hl [2, 0] rfl)
        · refine lv_aload_n hx hb dX5_weighPairs_25 rfl (lv_at hl 1 rfl) ?_
          refine lv_aload_n hx hb dX5_weighPairs_26 rfl (lv_at hl 0 rfl) ?_
          refine z_getN (v := .ref (pt i)) C hz a9 zl4 mFNX5_45 (by decide) rfl dX5_weighPairs_27 ?_
          refine lv_iconst (v := 0) hx hb dX5_weighPairs_30 (by decide) ?_
          have a11 : fL2 (pt i) = some (.inl (cy 1, (ln i), .inr (.inl (pp i)))) := F7 i (show i < nn by omega)
          refine z_lald 0 C hz a11 (by decide) (by have h9 := hk4 i (by omega) c10; omega) (by have h9 := hln i (by omega); omega) dX5_weighPairs_31 ?_
          rcases z_findc ((pp i) 0) nn with ⟨ja, hja, hva⟩ | hva
          · refine z_callVq (As := [.long ((pp i) 0)]) C hz hS hA hl (k_X5_find_A l D cy fL2 h al ra ga nn fg ((pp i) 0) ja a4 a5 hn60 hga hva hja) zyX5_find mMX5_24 a4 zl5 rfl rfl (Nat.le_of_ble_eq_true rfl) ⟨Nat.le_of_ble_eq_true rfl, Nat.le_of_ble_eq_true rfl⟩ ⟨Nat.le_of_ble_eq_true rfl, Nat.le_of_ble_eq_true rfl⟩ dX5_weighPairs_32 (fun r f12 H locs h13 hz hS => ?_)
            obtain ⟨rfl, k14⟩ := h13
            refine W.eq (g2 := F0 m 35 ls [.ref (fg ja)]) rfl ?_
            refine lv_astore_n (lv' := [(3, .ref (fg ja)), (2, .ref (fg i)), (0, .ref h), (1, .int (nI i))]) hx hb dX5_weighPairs_35 rfl hl (by decide) rfl (fun ls hl => ?_)
            refine lv_aload_n hx hb dX5_weighPairs_36 rfl (lv_at hl 2 rfl) ?_
            refine lv_aload_n hx hb dX5_weighPairs_37 rfl (lv_at hl 1 rfl) ?_
            have a15 : f12 (fg i) = some (.inr (4, [.int (kd i), .ref (pt i), .long (wgv i), .int (wd i), .int (nI i), .int (hs i), .int (bf i)])) := k14 _ _ a9 
            refine z_getN (v := .ref (pt i)) C hz a15 zl4 mFNX5_45 (by decide) rfl dX5_weighPairs_38 ?_
            refine lv_iconst (v := 1) hx hb dX5_weighPairs_41 (by decide) ?_
            have a16 : f12 (pt i) = some (.inl (cy 1, (ln i), .inr (.inl (pp i)))) := k14 _ _ a11 
            refine z_lald 1 C hz a16 (by decide) (by have h9 := hk4 i (by omega) c10; omega) (by have h9 := hln i (by omega); omega) dX5_weighPairs_42 ?_
            rcases z_findc ((pp i) 1) nn with ⟨jb, hjb, hvb⟩ | hvb
            · have a17 : f12 h = some (.inr (5, [.ref al, .ref ra, .int (nI nn)])) := k14 _ _ a4 
              have a18 : f12 al = some (.inl (cy 3, 60, .inr (.inr (.inr (.inr ga))))) := k14 _ _ a5 
              refine z_callVq (As := [.long ((pp i) 1)]) C hz hS hA hl (k_X5_find_A l D cy f12 h al ra ga nn fg ((pp i) 1) jb a17 a18 hn60 hga hvb hjb) zyX5_find mMX5_24 a17 zl5 rfl rfl (Nat.le_of_ble_eq_true rfl) ⟨Nat.le_of_ble_eq_true rfl, Nat.le_of_ble_eq_true rfl⟩ ⟨Nat.le_of_ble_eq_true rfl, Nat.le_of_ble_eq_true rfl⟩ dX5_weighPairs_43 (fun r f19 H locs h20 hz hS => ?_)
              obtain ⟨rfl, k21⟩ := h20
              refine W.eq (g2 := F0 m 46 ls [.ref (fg jb)]) rfl ?_
              refine lv_astore (lv' := [(4, .ref (fg jb)), (3, .ref (fg ja)), (2, .ref (fg i)), (0, .ref h), (1, .int (nI i))]) hx hb dX5_weighPairs_46 hl (by decide) rfl (fun ls hl => ?_)
              refine lv_aload_n hx hb dX5_weighPairs_48 rfl (lv_at hl 2 rfl) ?_
              refine lv_aload_n hx hb dX5_weighPairs_49 rfl (lv_at hl 1 rfl) ?_
              refine lv_ifnonnull (tgt := 57) hx hb dX5_weighPairs_50 (by decide) ?_
              refine lv_aload_n hx hb dX5_weighPairs_57 rfl (lv_at hl 1 rfl) ?_
              have F22 : ∀ i9 : Nat, i9 < nn → f12 (fg i9) = some (.inr (4, [.int (kd i9), .ref (pt i9), .long (wgv i9), .int (wd i9), .int (nI i9), .int (hs i9), .int (bf i9)])) := fun i9 h9 => k14 _ _ (F6 i9 h9) 
              have F23 : ∀ i9 : Nat, i9 < nn → f19 (fg i9) = some (.inr (4, [.int (kd i9), .ref (pt i9), .long (wgv i9), .int (wd i9), .int (nI i9), .int (hs i9), .int (bf i9)])) := fun i9 h9 => k21 _ _ (F22 i9 h9) 
              have a24 : f19 (fg ja) = some (.inr (4, [.int (kd ja), .ref (pt ja), .long (wgv ja), .int (wd ja), .int (nI ja), .int (hs ja), .int (bf ja)])) := F23 ja hja
              refine z_callVl (As := []) C hz hS hA hl (k_X4_heavyWeight l D cy f19 (fg ja) (kd ja) (pt ja) (wgv ja) (wd ja) (nI ja) (hs ja) (bf ja) a24 ) zyX4_heavyWeight mMX5_49 a24 zl4 rfl rfl (Nat.le_of_ble_eq_true rfl) ⟨Nat.le_of_ble_eq_true rfl, Nat.le_of_ble_eq_true rfl⟩ ⟨Nat.le_of_ble_eq_true rfl, Nat.le_of_ble_eq_true rfl⟩ dX5_weighPairs_58 (fun r27 f25 H locs h26 hz hS => ?_)
              have k28 := h26
              refine lv_aload hx hb dX5_weighPairs_61 (lv_at hl 0 rfl) ?_
              refine lv_ifnonnull (tgt := 70) hx hb dX5_weighPairs_63 (by decide) ?_
              refine lv_aload hx hb dX5_weighPairs_70 (lv_at hl 0 rfl) ?_
              have F29 : ∀ i9 : Nat, i9 < nn → f25 (fg i9) = some (.inr (4, [.int (kd i9), .ref (pt i9), .long (wgv i9), .int (wd i9), .int (nI i9), .int (hs i9), .int (bf i9)])) := fun i9 h9 => k28 _ _ (F23 i9 h9) 
              have a30 : f25 (fg jb) = some (.inr (4, [.int (kd jb), .ref (pt jb), .long (wgv jb), .int (wd jb), .int (nI jb), .int (hs jb), .int (bf jb)])) := F29 jb hjb
              refine z_getN (v := .long (wgv jb)) C hz a30 zl4 mFNX5_53 (by decide) rfl dX5_weighPairs_72 ?_
              refine lv_ladd hx hb dX5_weighPairs_75 ?_
              have a31 : f25 (fg i) = some (.inr (4, [.int (kd i), .ref (pt i), .long (wgv i), .int (wd i), .int (nI i), .int (hs i), .int (bf i)])) := F29 i (show i < nn by omega)
              refine z_putN (fs' := [.int (kd i), .ref (pt i), .long (r27 + (wgv jb)), .int (wd i), .int (nI i), .int (hs i), .int (bf i)]) C hz hS a31 zl4 mFNX5_53 (by decide) rfl rfl rfl (Nat.le_of_ble_eq_true rfl) rfl dX5_weighPairs_76 (fun H locs f32 a33 k34 hz hS => ?_)
              have F35 : ∀ i9 : Nat, i9 < nn → f32 (fg i9) = some (.inr (4, [.int (kd i9), .ref (pt i9), .long (va_up wgv i (r27 + (wgv jb)) i9), .int (wd i9), .int (nI i9), .int (hs i9), .int (bf i9)])) := z_famW (T := fun i9 => .inr (4, [.int (kd i9), .ref (pt i9), .long (wgv i9), .int (wd i9), .int (nI i9), .int (hs i9), .int (bf i9)])) (T' := fun i9 => .inr (4, [.int (kd i9), .ref (pt i9), .long (va_up wgv i (r27 + (wgv jb)) i9), .int (wd i9), .int (nI i9), .int (hs i9), .int (bf i9)])) F29 (show i < nn by omega) (by simp only [va_up_self]; exact a33) k34 (fun i9 h9 => by simp only [va_up_ne _ _ h9]) (fun i9 h9 => hfi i9 h9 i (show i < nn by omega))
              refine lv_iinc (v := nI (i + 1)) (lv' := [(1, .int (nI (i + 1))), (4, .ref (fg jb)), (3, .ref (fg ja)), (2, .ref (fg i)), (0, .ref h)]) hx hb dX5_weighPairs_79 hl (k := 4) rfl (nI_1 i) (by decide) rfl (fun ls hl => ?_)
              refine lv_goto (tgt := 2) hx hb dX5_weighPairs_82 (by decide) ?_
              have a36 : f19 h = some (.inr (5, [.ref al, .ref ra, .int (nI nn)])) := k21 _ _ a17 
              have a37 : f25 h = some (.inr (5, [.ref al, .ref ra, .int (nI nn)])) := k28 _ _ a36 
              have a38 : f32 h = some (.inr (5, [.ref al, .ref ra, .int (nI nn)])) := (k34 _ (z_ne a37 a31 rfl)).trans a37
              have a39 : f19 al = some (.inl (cy 3, 60, .inr (.inr (.inr (.inr ga))))) := k21 _ _ a18 
              have a40 : f25 al = some (.inl (cy 3, 60, .inr (.inr (.inr (.inr ga))))) := k28 _ _ a39 
              have a41 : f32 al = some (.inl (cy 3, 60, .inr (.inr (.inr (.inr ga))))) := (k34 _ (z_ne a40 a31 rfl)).trans a40
              have F42 : ∀ i9 : Nat, i9 < nn → f12 (pt i9) = some (.inl (cy 1, (ln i9), .inr (.inl (pp i9)))) := fun i9 h9 => k14 _ _ (F7 i9 h9) 
              have F43 : ∀ i9 : Nat, i9 < nn → f19 (pt i9) = some (.inl (cy 1, (ln i9), .inr (.inl (pp i9)))) := fun i9 h9 => k21 _ _ (F42 i9 h9) 
              have F44 : ∀ i9 : Nat, i9 < nn → f25 (pt i9) = some (.inl (cy 1, (ln i9), .inr (.inl (pp i9)))) := fun i9 h9 => k28 _ _ (F43 i9 h9) 
              have F45 : ∀ i9 : Nat, i9 < nn → f32 (pt i9) = some (.inl (cy 1, (ln i9), .inr (.inl (pp i9)))) := fun i9 h9 => (k34 _ (z_neO (F44 i9 h9) a31 rfl)).trans (F44 i9 h9)
              exact ih (i + 1) (va_up wgv i (r27 + (wgv jb))) _ _ _ _ (by omega) (by omega) a38 a41 F35 F45 (by
                    intro b e hb n0
                    have hb0 : fL2 b = some e := k3 b e hb n0
                    have hb1 : f12 b = some e := k14 b e hb0 
                    have hb2 : f19 b = some e := k21 b e hb1 
                    have hb3 : f25 b = some e := k28 b e hb2 
                    have hb4 : f32 b = some e := (k34 b (n0 i (show i < nn by omega))).trans hb3
                    exact hb4) hz hS (lv_sub hl [4, 0] rfl)
            · have a46 : f12 h = some (.inr (5, [.ref al, .ref ra, .int (nI nn)])) := k14 _ _ a4 
              refine z_callVq (As := [.long ((pp i) 1)]) C hz hS hA hl (k_X5_find_B l D cy f12 h al ra nn ((pp i) 1) a46 hn60 hvb) zyX5_find mMX5_24 a46 zl5 rfl rfl (Nat.le_of_ble_eq_true rfl) ⟨Nat.le_of_ble_eq_true rfl, Nat.le_of_ble_eq_true rfl⟩ ⟨Nat.le_of_ble_eq_true rfl, Nat.le_of_ble_eq_true rfl⟩ dX5_weighPairs_43 (fun r f47 H locs h48 hz hS => ?_)
              obtain ⟨rfl, k49⟩ := h48
              refine W.eq (g2 := F0 m 46 ls [.null]) rfl ?_
              refine lv_astoreN (lv' := [(4, .null), (3, .ref (fg ja)), (2, .ref (fg i)), (0, .ref h), (1, .int (nI i))]) hx hb dX5_weighPairs_46 hl (by decide) rfl (fun ls hl => ?_)
              refine lv_aload_n hx hb dX5_weighPairs_48 rfl (lv_at hl 2 rfl) ?_
              refine lv_aload_n hx hb dX5_weighPairs_49 rfl (lv_at hl 1 rfl) ?_
              refine lv_ifnonnull (tgt := 57) hx hb dX5_weighPairs_50 (by decide) ?_
              refine lv_aload_n hx hb dX5_weighPairs_57 rfl (lv_at hl 1 rfl) ?_
              have F50 : ∀ i9 : Nat, i9 < nn → f12 (fg i9) = some (.inr (4, [.int (kd i9), .ref (pt i9), .long (wgv i9), .int (wd i9), .int (nI i9), .int (hs i9), .int (bf i9)])) := fun i9 h9 => k14 _ _ (F6 i9 h9) 
              have F51 : ∀ i9 : Nat, i9 < nn → f47 (fg i9) = some (.inr (4, [.int (kd i9), .ref (pt i9), .long (wgv i9), .int (wd i9), .int (nI i9), .int (hs i9), .int (bf i9)])) := fun i9 h9 => k49 _ _ (F50 i9 h9) 
              have a52 : f47 (fg ja) = some (.inr (4, [.int (kd ja), .ref (pt ja), .long (wgv ja), .int (wd ja), .int (nI ja), .int (hs ja), .int (bf ja)])) := F51 ja hja
              refine z_callVl (As := []) C hz hS hA hl (k_X4_heavyWeight l D cy f47 (fg ja) (kd ja) (pt ja) (wgv ja) (wd ja) (nI ja) (hs ja) (bf ja) a52 ) zyX4_heavyWeight mMX5_49 a52 zl4 rfl rfl (Nat.le_of_ble_eq_true rfl) ⟨Nat.le_of_ble_eq_true rfl, Nat.le_of_ble_eq_true rfl⟩ ⟨Nat.le_of_ble_eq_true rfl, Nat.le_of_ble_eq_true rfl⟩ dX5_weighPairs_58 (fun r55 f53 H locs h54 hz hS => ?_)
              have k56 := h54
              refine lv_aloadN hx hb dX5_weighPairs_61 (lv_at hl 0 rfl) ?_
              refine lv_ifnonnullN hx hb dX5_weighPairs_63 ?_
              refine lv_lconst (v := 0) hx hb dX5_weighPairs_66 (by decide) ?_
              refine lv_goto (tgt := 75) hx hb dX5_weighPairs_67 (by decide) ?_
              refine lv_ladd hx hb dX5_weighPairs_75 ?_
              have F57 : ∀ i9 : Nat, i9 < nn → f53 (fg i9) = some (.inr (4, [.int (kd i9), .ref (pt i9), .long (wgv i9), .int (wd i9), .int (nI i9), .int (hs i9), .int (bf i9)])) := fun i9 h9 => k56 _ _ (F51 i9 h9) 
              have a58 : f53 (fg i) = some (.inr (4, [.int (kd i), .ref (pt i), .long (wgv i), .int (wd i), .int (nI i), .int (hs i), .int (bf i)])) := F57 i (show i < nn by omega)
              refine z_putN (fs' := [.int (kd i), .ref (pt i), .long (r55 + 0), .int (wd i), .int (nI i), .int (hs i), .int (bf i)]) C hz hS a58 zl4 mFNX5_53 (by decide) rfl rfl rfl (Nat.le_of_ble_eq_true rfl) rfl dX5_weighPairs_76 (fun H locs f59 a60 k61 hz hS => ?_)
              have F62 : ∀ i9 : Nat, i9 < nn → f59 (fg i9) = some (.inr (4, [.int (kd i9), .ref (pt i9), .long (va_up wgv i (r55 + 0) i9), .int (wd i9), .int (nI i9), .int (hs i9), .int (bf i9)])) := z_famW (T := fun i9 => .inr (4, [.int (kd i9), .ref (pt i9), .long (wgv i9), .int (wd i9), .int (nI i9), .int (hs i9), .int (bf i9)])) (T' := fun i9 => .inr (4, [.int (kd i9), .ref (pt i9), .long (va_up wgv i (r55 + 0) i9), .int (wd i9), .int (nI i9), .int (hs i9), .int (bf i9)])) F57 (show i < nn by omega) (by simp only [va_up_self]; exact a60) k61 (fun i9 h9 => by simp only [va_up_ne _ _ h9]) (fun i9 h9 => hfi i9 h9 i (show i < nn by omega))
              refine lv_iinc (v := nI (i + 1)) (lv' := [(1, .int (nI (i + 1))), (4, .null), (3, .ref (fg ja)), (2, .ref (fg i)), (0, .ref h)]) hx hb dX5_weighPairs_79 hl (k := 4) rfl (nI_1 i) (by decide) rfl (fun ls hl => ?_)
              refine lv_goto (tgt := 2) hx hb dX5_weighPairs_82 (by decide) ?_
              have a63 : f47 h = some (.inr (5, [.ref al, .ref ra, .int (nI nn)])) := k49 _ _ a46 
              have a64 : f53 h = some (.inr (5, [.ref al, .ref ra, .int (nI nn)])) := k56 _ _ a63 
              have a65 : f59 h = some (.inr (5, [.ref al, .ref ra, .int (nI nn)])) := (k61 _ (z_ne a64 a58 rfl)).trans a64
              have a66 : f12 al = some (.inl (cy 3, 60, .inr (.inr (.inr (.inr ga))))) := k14 _ _ a5 
              have a67 : f47 al = some (.inl (cy 3, 60, .inr (.inr (.inr (.inr ga))))) := k49 _ _ a66 
              have a68 : f53 al = some (.inl (cy 3, 60, .inr (.inr (.inr (.inr ga))))) := k56 _ _ a67 
              have a69 : f59 al = some (.inl (cy 3, 60, .inr (.inr (.inr (.inr ga))))) := (k61 _ (z_ne a68 a58 rfl)).trans a68
              have F70 : ∀ i9 : Nat, i9 < nn → f12 (pt i9) = some (.inl (cy 1, (ln i9), .inr (.inl (pp i9)))) := fun i9 h9 => k14 _ _ (F7 i9 h9) 
              have F71 : ∀ i9 : Nat, i9 < nn → f47 (pt i9) = some (.inl (cy 1, (ln i9), .inr (.inl (pp i9)))) := fun i9 h9 => k49 _ _ (F70 i9 h9) 
              have F72 : ∀ i9 : Nat, i9 < nn → f53 (pt i9) = some (.inl (cy 1, (ln i9), .inr (.inl (pp i9)))) := fun i9 h9 => k56 _ _ (F71 i9 h9) 
              have F73 : ∀ i9 : Nat, i9 < nn → f59 (pt i9) = some (.inl (cy 1, (ln i9), .inr (.inl (pp i9)))) := fun i9 h9 => (k61 _ (z_neO (F72 i9 h9) a58 rfl)).trans (F72 i9 h9)
              exact ih (i + 1) (va_up wgv i (r55 + 0)) _ _ _ _ (by omega) (by omega) a65 a69 F62 F73 (by
                    intro b e hb n0
                    have hb0 : fL2 b = some e := k3 b e hb n0
                    have hb1 : f12 b = some e := k14 b e hb0 
                    have hb2 : f47 b = some e := k49 b e hb1 
                    have hb3 : f53 b = some e := k56 b e hb2 
                    have hb4 : f59 b = some e := (k61 b (n0 i (show i < nn by omega))).trans hb3
                    exact hb4) hz hS (lv_sub hl [4, 0] rfl)
          · refine z_callVq (As := [.long ((pp i) 0)]) C hz hS hA hl (k_X5_find_B l D cy fL2 h al ra nn ((pp i) 0) a4 hn60 hva) zyX5_find mMX5_24 a4 zl5 rfl rfl (Nat.le_of_ble_eq_true rfl) ⟨Nat.le_of_ble_eq_true rfl, Nat.le_of_ble_eq_true rfl⟩ ⟨Nat.le_of_ble_eq_true rfl, Nat.le_of_ble_eq_true rfl⟩ dX5_weighPairs_32 (fun r f74 H locs h75 hz hS => ?_)
            obtain ⟨rfl, k76⟩ := h75
            refine W.eq (g2 := F0 m 35 ls [.null]) rfl ?_
            refine lv_astore_nN (lv' := [(3, .null), (2, .ref (fg i)), (0, .ref h), (1, .int (nI i))]) hx hb dX5_weighPairs_35 rfl hl (by decide) rfl (fun ls hl => ?_)
            refine lv_aload_n hx hb dX5_weighPairs_36 rfl (lv_at hl 2 rfl) ?_
            refine lv_aload_n hx hb dX5_weighPairs_37 rfl (lv_at hl 1 rfl) ?_
            have a77 : f74 (fg i) = some (.inr (4, [.int (kd i), .ref (pt i), .long (wgv i), .int (wd i), .int (nI i), .int (hs i), .int (bf i)])) := k76 _ _ a9 
            refine z_getN (v := .ref (pt i)) C hz a77 zl4 mFNX5_45 (by decide) rfl dX5_weighPairs_38 ?_
            refine lv_iconst (v := 1) hx hb dX5_weighPairs_41 (by decide) ?_
            have a78 : f74 (pt i) = some (.inl (cy 1, (ln i), .inr (.inl (pp i)))) := k76 _ _ a11 
            refine z_lald 1 C hz a78 (by decide) (by have h9 := hk4 i (by omega) c10; omega) (by have h9 := hln i (by omega); omega) dX5_weighPairs_42 ?_
            rcases z_findc ((pp i) 1) nn with ⟨jb, hjb, hvb⟩ | hvb
            · have a79 : f74 h = some (.inr (5, [.ref al, .ref ra, .int (nI nn)])) := k76 _ _ a4 
              have a80 : f74 al = some (.inl (cy 3, 60, .inr (.inr (.inr (.inr ga))))) := k76 _ _ a5 
              refine z_callVq (As := [.long ((pp i) 1)]) C hz hS hA hl (k_X5_find_A l D cy f74 h al ra ga nn fg ((pp i) 1) jb a79 a80 hn60 hga hvb hjb) zyX5_find mMX5_24 a79 zl5 rfl rfl (Nat.le_of_ble_eq_true rfl) ⟨Nat.le_of_ble_eq_true rfl, Nat.le_of_ble_eq_true rfl⟩ ⟨Nat.le_of_ble_eq_true rfl, Nat.le_of_ble_eq_true rfl⟩ dX5_weighPairs_43 (fun r f81 H locs h82 hz hS => ?_)
              obtain ⟨rfl, k83⟩ := h82
              refine W.eq (g2 := F0 m 46 ls [.ref (fg jb)]) rfl ?_
              refine lv_astore (lv' := [(4, .ref (fg jb)), (3, .null), (2, .ref (fg i)), (0, .ref h), (1, .int (nI i))]) hx hb dX5_weighPairs_46 hl (by decide) rfl (fun ls hl => ?_)
              refine lv_aload_n hx hb dX5_weighPairs_48 rfl (lv_at hl 2 rfl) ?_
              refine lv_aload_nN hx hb dX5_weighPairs_49 rfl (lv_at hl 1 rfl) ?_
              refine lv_ifnonnullN hx hb dX5_weighPairs_50 ?_
              refine lv_lconst (v := 0) hx hb dX5_weighPairs_53 (by decide) ?_
              refine lv_goto (tgt := 61) hx hb dX5_weighPairs_54 (by decide) ?_
              refine lv_aload hx hb dX5_weighPairs_61 (lv_at hl 0 rfl) ?_
              refine lv_ifnonnull (tgt := 70) hx hb dX5_weighPairs_63 (by decide) ?_
              refine lv_aload hx hb dX5_weighPairs_70 (lv_at hl 0 rfl) ?_
              have F84 : ∀ i9 : Nat, i9 < nn → f74 (fg i9) = some (.inr (4, [.int (kd i9), .ref (pt i9), .long (wgv i9), .int (wd i9), .int (nI i9), .int (hs i9), .int (bf i9)])) := fun i9 h9 => k76 _ _ (F6 i9 h9) 
              have F85 : ∀ i9 : Nat, i9 < nn → f81 (fg i9) = some (.inr (4, [.int (kd i9), .ref (pt i9), .long (wgv i9), .int (wd i9), .int (nI i9), .int (hs i9), .int (bf i9)])) := fun i9 h9 => k83 _ _ (F84 i9 h9) 
              have a86 : f81 (fg jb) = some (.inr (4, [.int (kd jb), .ref (pt jb), .long (wgv jb), .int (wd jb), .int (nI jb), .int (hs jb), .int (bf jb)])) := F85 jb hjb
              refine z_getN (v := .long (wgv jb)) C hz a86 zl4 mFNX5_53 (by decide) rfl dX5_weighPairs_72 ?_
              refine lv_ladd hx hb dX5_weighPairs_75 ?_
              have a87 : f81 (fg i) = some (.inr (4, [.int (kd i), .ref (pt i), .long (wgv i), .int (wd i), .int (nI i), .int (hs i), .int (bf i)])) := F85 i (show i < nn by omega)
              refine z_putN (fs' := [.int (kd i), .ref (pt i), .long (0 + (wgv jb)), .int (wd i), .int (nI i), .int (hs i), .int (bf i)]) C hz hS a87 zl4 mFNX5_53 (by decide) rfl rfl rfl (Nat.le_of_ble_eq_true rfl) rfl dX5_weighPairs_76 (fun H locs f88 a89 k90 hz hS => ?_)
              have F91 : ∀ i9 : Nat, i9 < nn → f88 (fg i9) = some (.inr (4, [.int (kd i9), .ref (pt i9), .long (va_up wgv i (0 + (wgv jb)) i9), .int (wd i9), .int (nI i9), .int (hs i9), .int (bf i9)])) := z_famW (T := fun i9 => .inr (4, [.int (kd i9), .ref (pt i9), .long (wgv i9), .int (wd i9), .int (nI i9), .int (hs i9), .int (bf i9)])) (T' := fun i9 => .inr (4, [.int (kd i9), .ref (pt i9), .long (va_up wgv i (0 + (wgv jb)) i9), .int (wd i9), .int (nI i9), .int (hs i9), .int (bf i9)])) F85 (show i < nn by omega) (by simp only [va_up_self]; exact a89) k90 (fun i9 h9 => by simp only [va_up_ne _ _ h9]) (fun i9 h9 => hfi i9 h9 i (show i < nn by omega))
              refine lv_iinc (v := nI (i + 1)) (lv' := [(1, .int (nI (i + 1))), (4, .ref (fg jb)), (3, .null), (2, .ref (fg i)), (0, .ref h)]) hx hb dX5_weighPairs_79 hl (k := 4) rfl (nI_1 i) (by decide) rfl (fun ls hl => ?_)
              refine lv_goto (tgt := 2) hx hb dX5_weighPairs_82 (by decide) ?_
              have a92 : f81 h = some (.inr (5, [.ref al, .ref ra, .int (nI nn)])) := k83 _ _ a79 
              have a93 : f88 h = some (.inr (5, [.ref al, .ref ra, .int (nI nn)])) := (k90 _ (z_ne a92 a87 rfl)).trans a92
              have a94 : f81 al = some (.inl (cy 3, 60, .inr (.inr (.inr (.inr ga))))) := k83 _ _ a80 
              have a95 : f88 al = some (.inl (cy 3, 60, .inr (.inr (.inr (.inr ga))))) := (k90 _ (z_ne a94 a87 rfl)).trans a94
              have F96 : ∀ i9 : Nat, i9 < nn → f74 (pt i9) = some (.inl (cy 1, (ln i9), .inr (.inl (pp i9)))) := fun i9 h9 => k76 _ _ (F7 i9 h9) 
              have F97 : ∀ i9 : Nat, i9 < nn → f81 (pt i9) = some (.inl (cy 1, (ln i9), .inr (.inl (pp i9)))) := fun i9 h9 => k83 _ _ (F96 i9 h9) 
              have F98 : ∀ i9 : Nat, i9 < nn → f88 (pt i9) = some (.inl (cy 1, (ln i9), .inr (.inl (pp i9)))) := fun i9 h9 => (k90 _ (z_neO (F97 i9 h9) a87 rfl)).trans (F97 i9 h9)
              exact ih (i + 1) (va_up wgv i (0 + (wgv jb))) _ _ _ _ (by omega) (by omega) a93 a95 F91 F98 (by
                    intro b e hb n0
                    have hb0 : fL2 b = some e := k3 b e hb n0
                    have hb1 : f74 b = some e := k76 b e hb0 
                    have hb2 : f81 b = some e := k83 b e hb1 
                    have hb3 : f88 b = some e := (k90 b (n0 i (show i < nn by omega))).trans hb2
                    exact hb3) hz hS (lv_sub hl [4, 0] rfl)
            · have a99 : f74 h = some (.inr (5, [.ref al, .ref ra, .int (nI nn)])) := k76 _ _ a4 
              refine z_callVq (As := [.long ((pp i) 1)]) C hz hS hA hl (k_X5_find_B l D cy f74 h al ra nn ((pp i) 1) a99 hn60 hvb) zyX5_find mMX5_24 a99 zl5 rfl rfl (Nat.le_of_ble_eq_true rfl) ⟨Nat.le_of_ble_eq_true rfl, Nat.le_of_ble_eq_true rfl⟩ ⟨Nat.le_of_ble_eq_true rfl, Nat.le_of_ble_eq_true rfl⟩ dX5_weighPairs_43 (fun r f100 H locs h101 hz hS => ?_)
              obtain ⟨rfl, k102⟩ := h101
              refine W.eq (g2 := F0 m 46 ls [.null]) rfl ?_
              refine lv_astoreN (lv' := [(4, .null), (3, .null), (2, .ref (fg i)), (0, .ref h), (1, .int (nI i))]) hx hb dX5_weighPairs_46 hl (by decide) rfl (fun ls hl => ?_)
              refine lv_aload_n hx hb dX5_weighPairs_48 rfl (lv_at hl 2 rfl) ?_
              refine lv_aload_nN hx hb dX5_weighPairs_49 rfl (lv_at hl 1 rfl) ?_
              refine lv_ifnonnullN hx hb dX5_weighPairs_50 ?_
              refine lv_lconst (v := 0) hx hb dX5_weighPairs_53 (by decide) ?_
              refine lv_goto (tgt := 61) hx hb dX5_weighPairs_54 (by decide) ?_
              refine lv_aloadN hx hb dX5_weighPairs_61 (lv_at hl 0 rfl) ?_
              refine lv_ifnonnullN hx hb dX5_weighPairs_63 ?_
              refine lv_lconst (v := 0) hx hb dX5_weighPairs_66 (by decide) ?_
              refine lv_goto (tgt := 75) hx hb dX5_weighPairs_67 (by decide) ?_
              refine lv_ladd hx hb dX5_weighPairs_75 ?_
              have a103 : f100 (fg i) = some (.inr (4, [.int (kd i), .ref (pt i), .long (wgv i), .int (wd i), .int (nI i), .int (hs i), .int (bf i)])) := k102 _ _ a77 
              refine z_putN (fs' := [.int (kd i), .ref (pt i), .long (0 + 0), .int (wd i), .int (nI i), .int (hs i), .int (bf i)]) C hz hS a103 zl4 mFNX5_53 (by decide) rfl rfl rfl (Nat.le_of_ble_eq_true rfl) rfl dX5_weighPairs_76 (fun H locs f104 a105 k106 hz hS => ?_)
              have F107 : ∀ i9 : Nat, i9 < nn → f74 (fg i9) = some (.inr (4, [.int (kd i9), .ref (pt i9), .long (wgv i9), .int (wd i9), .int (nI i9), .int (hs i9), .int (bf i9)])) := fun i9 h9 => k76 _ _ (F6 i9 h9) 
              have F108 : ∀ i9 : Nat, i9 < nn → f100 (fg i9) = some (.inr (4, [.int (kd i9), .ref (pt i9), .long (wgv i9), .int (wd i9), .int (nI i9), .int (hs i9), .int (bf i9)])) := fun i9 h9 => k102 _ _ (F107 i9 h9) 
              have F109 : ∀ i9 : Nat, i9 < nn → f104 (fg i9) = some (.inr (4, [.int (kd i9), .ref (pt i9), .long (va_up wgv i (0 + 0) i9), .int (wd i9), .int (nI i9), .int (hs i9), .int (bf i9)])) := z_famW (T := fun i9 => .inr (4, [.int (kd i9), .ref (pt i9), .long (wgv i9), .int (wd i9), .int (nI i9), .int (hs i9), .int (bf i9)])) (T' := fun i9 => .inr (4, [.int (kd i9), .ref (pt i9), .long (va_up wgv i (0 + 0) i9), .int (wd i9), .int (nI i9), .int (hs i9), .int (bf i9)])) F108 (show i < nn by omega) (by simp only [va_up_self]; exact a105) k106 (fun i9 h9 => by simp only [va_up_ne _ _ h9]) (fun i9 h9 => hfi i9 h9 i (show i < nn by omega))
              refine lv_iinc (v := nI (i + 1)) (lv' := [(1, .int (nI (i + 1))), (4, .null), (3, .null), (2, .ref (fg i)), (0, .ref h)]) hx hb dX5_weighPairs_79 hl (k := 4) rfl (nI_1 i) (by decide) rfl (fun ls hl => ?_)
              refine lv_goto (tgt := 2) hx hb dX5_weighPairs_82 (by decide) ?_
              have a110 : f100 h = some (.inr (5, [.ref al, .ref ra, .int (nI nn)])) := k102 _ _ a99 
              have a111 : f104 h = some (.inr (5, [.ref al, .ref ra, .int (nI nn)])) := (k106 _ (z_ne a110 a103 rfl)).trans a110
              have a112 : f74 al = some (.inl (cy 3, 60, .inr (.inr (.inr (.inr ga))))) := k76 _ _ a5 
              have a113 : f100 al = some (.inl (cy 3, 60, .inr (.inr (.inr (.inr ga))))) := k102 _ _ a112 
              have a114 : f104 al = some (.inl (cy 3, 60, .inr (.inr (.inr (.inr ga))))) := (k106 _ (z_ne a113 a103 rfl)).trans a113
              have F115 : ∀ i9 : Nat, i9 < nn → f74 (pt i9) = some (.inl (cy 1, (ln i9), .inr (.inl (pp i9)))) := fun i9 h9 => k76 _ _ (F7 i9 h9) 
              have F116 : ∀ i9 : Nat, i9 < nn → f100 (pt i9) = some (.inl (cy 1, (ln i9), .inr (.inl (pp i9)))) := fun i9 h9 => k102 _ _ (F115 i9 h9) 
              have F117 : ∀ i9 : Nat, i9 < nn → f104 (pt i9) = some (.inl (cy 1, (ln i9), .inr (.inl (pp i9)))) := fun i9 h9 => (k106 _ (z_neO (F116 i9 h9) a103 rfl)).trans (F116 i9 h9)
              exact ih (i + 1) (va_up wgv i (0 + 0)) _ _ _ _ (by omega) (by omega) a111 a114 F109 F117 (by
                    intro b e hb n0
                    have hb0 : fL2 b = some e := k3 b e hb n0
                    have hb1 : f74 b = some e := k76 b e hb0 
                    have hb2 : f100 b = some e := k102 b e hb1 
                    have hb3 : f104 b = some e := (k106 b (n0 i (show i < nn by omega))).trans hb2
                    exact hb3) hz hS (lv_sub hl [4, 0] rfl)
  exact lp1 (nn - 0 + 1) 0 wg _ _ _ _ (Nat.lt_succ_self _) (by omega) p0 p1 hF hP (fun b e hb n0 => hb) hz hS (lv_sub hl [1, 0] rfl)
