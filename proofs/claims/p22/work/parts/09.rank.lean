abbrev rmX5_rank : Room := { frames := 4, cells := 0, slots := 0, locals := 95 }
set_option maxHeartbeats 4000000 in
set_option maxRecDepth 100000 in
theorem k_X5_rank (l : Launch) (D : va_G) (cy : Nat → ClassId) (f : zM) (h : Nat) (al : Nat) (ra : Nat) (ga : Nat → Option Nat) (gr : Nat → Option Nat) (nn : Nat) (fg : Nat → Nat) (pt : Nat → Nat) (kd : Nat → Int32) (ln : Nat → Nat) (pp : Nat → Nat → Int64) (wg : Nat → Int64) (wd : Nat → Int32) (hs : Nat → Int32) (bf : Nat → Int32) (q : Nat) (kdq : Int32) (pa : Nat) (wgq : Int64) (wdq : Int32) (nuq : Int32) (hsq : Int32) (bfq : Int32) (t : Nat) (gp : Nat → Int64) (p0 : f h = some (.inr (5, [.ref al, .ref ra, .int (nI nn)]))) (p1 : f al = some (.inl (cy 3, 60, .inr (.inr (.inr (.inr ga)))))) (p2 : f ra = some (.inl (cy 3, 60, .inr (.inr (.inr (.inr gr)))))) (p3 : f q = some (.inr (4, [.int kdq, .ref pa, .long wgq, .int wdq, .int nuq, .int hsq, .int bfq]))) (p4 : f pa = some (.inl (cy 1, t, .inr (.inl gp)))) (hF : ∀ i9 : Nat, i9 < nn → f (fg i9) = some (.inr (4, [.int (kd i9), .ref (pt i9), .long (wg i9), .int (wd i9), .int (nI i9), .int (hs i9), .int (bf i9)]))) (hP : ∀ i9 : Nat, i9 < nn → f (pt i9) = some (.inl (cy 1, (ln i9), .inr (.inl (pp i9))))) (hn59 : nn < 60) (hga : ∀ i, i < nn → ga i = some (fg i)) (hgr : ∀ k, k < nn → ∃ j, j < nn ∧ gr k = some (fg j)) (hln : ∀ i, i < nn → ln i ≤ 15) (hk5 : ∀ i, i < nn → kd i = 5 → 3 ≤ ln i) (hfi : ∀ i, i < nn → ∀ j, j < nn → fg i = fg j → i = j) (hq : ∀ j, j < nn → fg j ≠ q) (ht : t ≤ 15) (h5q : kdq = 5 → 3 ≤ t) (har : al ≠ ra) (hgi : ∀ k, k < nn → ∀ k2, k2 < nn → gr k = gr k2 → k = k2) : zCv l D cy yX5_rank cX5_rank 5 none rmX5_rank [.ref h, .ref q] f (fun (f1 : zM) => ∃ (bq : Int32) (gr1 : Nat → Option Nat) (bf1 : Nat → Int32), (∀ k, k < nn + 1 → gr1 k = some q ∨ ∃ j, j < nn ∧ gr1 k = some (fg j)) ∧ (zRI nn fg gr bf (fun j => zCM nn bf (kd j) (ln j) (pp j) (nI j) kdq t gp nuq) q gr1 bf1 bq) ∧ f1 q = some (.inr (4, [.int kdq, .ref pa, .long wgq, .int wdq, .int nuq, .int hsq, .int bq])) ∧ f1 ra = some (.inl (cy 3, 60, .inr (.inr (.inr (.inr gr1))))) ∧ (∀ i9 : Nat, i9 < nn → f1 (fg i9) = some (.inr (4, [.int (kd i9), .ref (pt i9), .long (wg i9), .int (wd i9), .int (nI i9), .int (hs i9), .int (bf1 i9)]))) ∧ (∀ (b : Nat) (e : va_E), f b = some e → b ≠ q → b ≠ ra → (∀ j9 : Nat, j9 < nn → b ≠ fg j9) → f1 b = some e)) := by
  intro sz
  refine z_body (by decide +kernel) (Nat.le_of_ble_eq_true rfl) ?_
  intro p e s m below meth c ls C hr hin hsz hz hl
  subst hsz
  have hx := C.1
  have hb := C.2.1
  have hA : ∀ q, s.heap.size ≤ q → zA f s.heap.size q := fun q h => Or.inr h
  have hS : va_S (zA f s.heap.size) s.heap s.heap [] := va_S.rf
  have hl : lv_has ls 5 [(0, .ref h), (1, .ref q)] := hl
  refine lv_aload_n hx hb dX5_rank_0 rfl (lv_at hl 0 rfl) ?_
  refine z_get (v := .int (nI nn)) C hz p0 zl5 mFX5_20 (by decide) rfl dX5_rank_1 ?_
  refine lv_istore_n (lv' := [(2, .int (nI nn)), (0, .ref h), (1, .ref q)]) hx hb dX5_rank_4 rfl hl (by decide) rfl (fun ls hl => ?_)
  have lp1 : ∀ (n : Nat) (i : Nat) (fL2 : zM) (H : Heap) (locs : List Loc) (ls : Array Slot), (i) < n → (i ≤ nn) → (∀ k, i ≤ k → k < nn → ∀ j, j < nn → gr k = some (fg j) → 0 < zCM nn bf (kd j) (ln j) (pp j) (nI j) kdq t gp nuq) → fL2 h = some (.inr (5, [.ref al, .ref ra, .int (nI nn)])) → fL2 al = some (.inl (cy 3, 60, .inr (.inr (.inr (.inr ga))))) → fL2 ra = some (.inl (cy 3, 60, .inr (.inr (.inr (.inr gr))))) → fL2 q = some (.inr (4, [.int kdq, .ref pa, .long wgq, .int wdq, .int nuq, .int hsq, .int bfq])) → fL2 pa = some (.inl (cy 1, t, .inr (.inl gp))) → (∀ i9 : Nat, i9 < nn → fL2 (fg i9) = some (.inr (4, [.int (kd i9), .ref (pt i9), .long (wg i9), .int (wd i9), .int (nI i9), .int (hs i9), .int (bf i9)]))) → (∀ i9 : Nat, i9 < nn → fL2 (pt i9) = some (.inl (cy 1, (ln i9), .inr (.inl (pp i9))))) → (∀ (b : Nat) (e : va_E), f b = some e → fL2 b = some e) → zH D (zA f s.heap.size) fL2 H → va_S (zA f s.heap.size) s.heap H locs → lv_has ls 5 [(0, .ref h), (1, .ref q), (2, .int (nI i))] → W p l e rmX5_rank s m ([.ref h, .ref q] : List Value).toArray below meth c H locs 0 0 (MQ below (va_Qv (fun (f1 : zM) => ∃ (bq : Int32) (gr1 : Nat → Option Nat) (bf1 : Nat → Int32), (∀ k, k < nn + 1 → gr1 k = some q ∨ ∃ j, j < nn ∧ gr1 k = some (fg j)) ∧ (zRI nn fg gr bf (fun j => zCM nn bf (kd j) (ln j) (pp j) (nI j) kdq t gp nuq) q gr1 bf1 bq) ∧ f1 q = some (.inr (4, [.int kdq, .ref pa, .long wgq, .int wdq, .int nuq, .int hsq, .int bq])) ∧ f1 ra = some (.inl (cy 3, 60, .inr (.inr (.inr (.inr gr1))))) ∧ (∀ i9 : Nat, i9 < nn → f1 (fg i9) = some (.inr (4, [.int (kd i9), .ref (pt i9), .long (wg i9), .int (wd i9), .int (nI i9), .int (hs i9), .int (bf1 i9)]))) ∧ (∀ (b : Nat) (e : va_E), f b = some e → b ≠ q → b ≠ ra → (∀ j9 : Nat, j9 < nn → b ≠ fg j9) → f1 b = some e)) (zB D f s.heap.size) (zA f s.heap.size)) ([.ref h, .ref q] : List Value).toArray s rmX5_rank.cells rmX5_rank.slots (zA f s.heap.size)) (F0 m 5 ls []) := by
    intro n
    induction n with
    | zero => intro i fL2 H locs ls hmz; exact absurd hmz (Nat.not_lt_zero _)
    | succ n ih =>
      intro i fL2 H locs ls hmz hi hgt a4 a5 a6 a7 a8 F9 F10 k3 hz hS hl
      refine lv_iload_n hx hb dX5_rank_5 rfl (lv_at hl 2 rfl) ?_
      refine lv_if_le (tgt := 31) hx hb dX5_rank_6 (by decide) (fun c11 => ?_) (fun c11 => ?_)
      · replace c11 : (i ≤ 0) := (nI_leI (a := i) (b := 0) (by omega) (by omega)).mp c11
        refine lv_iload_n hx hb dX5_rank_31 rfl (lv_at hl 2 rfl) ?_
        refine lv_if_le (tgt := 55) hx hb dX5_rank_32 (by decide) (fun c12 => ?_) (fun c12 => ?_)
        · replace c12 : (i ≤ 0) := (nI_leI (a := i) (b := 0) (by omega) (by omega)).mp c12
          refine lv_iconst (v := 0) hx hb dX5_rank_55 (by decide) ?_
          refine lv_istore_n (lv' := [(3, .int 0), (0, .ref h), (1, .ref q), (2, .int (nI i))]) hx hb dX5_rank_56 rfl hl (by decide) rfl (fun ls hl => ?_)
          refine lv_aload_n hx hb dX5_rank_57 rfl (lv_at hl 2 rfl) ?_
          refine lv_iload_n hx hb dX5_rank_58 rfl (lv_at hl 0 rfl) ?_
          refine lv_if_eq (tgt := 76) hx hb dX5_rank_59 (by decide) (fun c13 => ?_) (fun c13 => ?_)
          rotate_left
          · exact absurd c13 (by decide)
          refine lv_iload_n hx hb dX5_rank_76 rfl (lv_at hl 3 rfl) ?_
          refine z_putN (fs' := [.int kdq, .ref pa, .long wgq, .int wdq, .int nuq, .int hsq, .int (nI i)]) C hz hS a7 zl4 mFNX5_69 (by decide) rfl rfl rfl (Nat.le_of_ble_eq_true rfl) rfl dX5_rank_77 (fun H locs f14 a15 k16 hz hS => ?_)
          refine lv_aload_n hx hb dX5_rank_80 rfl (lv_at hl 1 rfl) ?_
          have a17 : f14 h = some (.inr (5, [.ref al, .ref ra, .int (nI nn)])) := (k16 _ (z_ne a4 a7 rfl)).trans a4
          refine z_get (v := .int (nI nn)) C hz a17 zl5 mFX5_20 (by decide) rfl dX5_rank_81 ?_
          refine lv_istore (lv' := [(4, .int (nI nn)), (3, .int 0), (0, .ref h), (1, .ref q), (2, .int (nI i))]) hx hb dX5_rank_84 hl (by decide) rfl (fun ls hl => ?_)
          have lp18 : ∀ (n : Nat) (kq : Nat) (grv : Nat → Option Nat) (bfv : Nat → Int32) (fL19 : zM) (H : Heap) (locs : List Loc) (ls : Array Slot), (kq) < n → (i ≤ kq) → (kq ≤ nn) → (∀ k', (k' < nn ∨ (kq < k' ∧ k' ≤ nn)) → ∃ j, j < nn ∧ grv k' = some (fg j)) → (∀ k', k' < nn → k' ≤ kq → grv k' = gr k') → (∀ k', kq < k' → k' ≤ nn → grv k' = gr (k' - 1)) → (∀ j, j < nn → ∀ k, k < nn → gr k = some (fg j) → bfv j = if kq ≤ k then bf j + 1 else bf j) → fL19 h = some (.inr (5, [.ref al, .ref ra, .int (nI nn)])) → fL19 q = some (.inr (4, [.int kdq, .ref pa, .long wgq, .int wdq, .int nuq, .int hsq, .int (nI i)])) → fL19 ra = some (.inl (cy 3, 60, .inr (.inr (.inr (.inr grv))))) → (∀ i9 : Nat, i9 < nn → fL19 (fg i9) = some (.inr (4, [.int (kd i9), .ref (pt i9), .long (wg i9), .int (wd i9), .int (nI i9), .int (hs i9), .int (bfv i9)]))) → (∀ (b : Nat) (e : va_E), f14 b = some e → b ≠ ra → (∀ j9 : Nat, j9 < nn → b ≠ fg j9) → fL19 b = some e) → zH D (zA f s.heap.size) fL19 H → va_S (zA f s.heap.size) s.heap H locs → lv_has ls 5 [(0, .ref h), (1, .ref q), (2, .int (nI i)), (4, .int (nI kq))] → W p l e rmX5_rank s m ([.ref h, .ref q] : List Value).toArray below meth c H locs 0 0 (MQ below (va_Qv (fun (f1 : zM) => ∃ (bq : Int32) (gr1 : Nat → Option Nat) (bf1 : Nat → Int32), (∀ k, k < nn + 1 → gr1 k = some q ∨ ∃ j, j < nn ∧ gr1 k = some (fg j)) ∧ (zRI nn fg gr bf (fun j => zCM nn bf (kd j) (ln j) (pp j) (nI j) kdq t gp nuq) q gr1 bf1 bq) ∧ f1 q = some (.inr (4, [.int kdq, .ref pa, .long wgq, .int wdq, .int nuq, .int hsq, .int bq])) ∧ f1 ra = some (.inl (cy 3, 60, .inr (.inr (.inr (.inr gr1))))) ∧ (∀ i9 : Nat, i9 < nn → f1 (fg i9) = some (.inr (4, [.int (kd i9), .ref (pt i9), .long (wg i9), .int (wd i9), .int (nI i9), .int (hs i9), .int (bf1 i9)]))) ∧ (∀ (b : Nat) (e : va_E), f b = some e → b ≠ q → b ≠ ra → (∀ j9 : Nat, j9 < nn → b ≠ fg j9) → f1 b = some e)) (zB D f s.heap.size) (zA f s.heap.size)) ([.ref h, .ref q] : List Value).toArray s rmX5_rank.cells rmX5_rank.slots (zA f s.heap.size)) (F0 m 86 ls []) := by
            intro n
            induction n with
            | zero => intro kq grv bfv fL19 H locs ls hmz; exact absurd hmz (Nat.not_lt_zero _)
            | succ n ih =>
              intro kq grv bfv fL19 H locs ls hmz hik hkn hgrv hg1 hg2 hbv a21 a22 a23 F24 k20 hz hS hl
              refine lv_iload hx hb dX5_rank_86 (lv_at hl 3 rfl) ?_
              refine lv_iload_n hx hb dX5_rank_88 rfl (lv_at hl 2 rfl) ?_
              refine lv_icmp_le (tgt := 130) hx hb dX5_rank_89 (by decide) (fun c25 => ?_) (fun c25 => ?_)
              · replace c25 : (kq ≤ i) := (nI_leI (a := kq) (b := i) (by omega) (by omega)).mp c25
                refine lv_aload_n hx hb dX5_rank_130 rfl (lv_at hl 0 rfl) ?_
                refine z_get (v := .ref ra) C hz a21 zl5 mFX5_17 (by decide) rfl dX5_rank_131 ?_
                refine lv_iload_n hx hb dX5_rank_134 rfl (lv_at hl 2 rfl) ?_
                refine lv_aload_n hx hb dX5_rank_135 rfl (lv_at hl 1 rfl) ?_
                refine z_astq i C hz hS a23 rfl a22 zl4 rfl (by omega) (by omega) dX5_rank_136 (fun H locs f26 a27 k28 hz hS => ?_)
                have a29 : f26 q = some (.inr (4, [.int kdq, .ref pa, .long wgq, .int wdq, .int nuq, .int hsq, .int (nI i)])) := (k28 _ (z_ne a22 a23 rfl)).trans a22
                have F30 : ∀ i9 : Nat, i9 < nn → f26 (fg i9) = some (.inr (4, [.int (kd i9), .ref (pt i9), .long (wg i9), .int (wd i9), .int (nI i9), .int (hs i9), .int (bfv i9)])) := fun i9 h9 => (k28 _ (z_ne (F24 i9 h9) a23 rfl)).trans (F24 i9 h9)
                exact z_vret C hr hz hS ⟨(nI i), (va_up grv i (some q)), bfv, (z_rk hgrv (by omega) (by omega) (by omega)), ⟨i, by omega, (fun k9 h9 => (va_up_ne _ _ (by omega)).trans (hg1 k9 (by omega) (by omega))), va_up_self _ _ _, (fun k9 h9 h8 => (va_up_ne _ _ (by omega)).trans (hg2 (k9 + 1) (by omega) (by omega))), (fun j9 h9 k9 h8 e9 => by rw [hbv j9 h9 k9 h8 e9, show kq = i by omega]), (fun k9 h9 h8 => hgt k9 h9 h8), (fun h9 => by rw [h9]; decide), (fun h9 => absurd h9 (by omega))⟩, a29, a27, F30, (by
                      intro b e hb n0 n1 n2
                      have hb0 : fL2 b = some e := k3 b e hb 
                      have hb1 : f14 b = some e := (k16 b n0).trans hb0
                      have hb2 : fL19 b = some e := k20 b e hb1 n1 n2
                      have hb3 : f26 b = some e := (k28 b n1).trans hb2
                      exact hb3)⟩ (Nat.le_of_ble_eq_true rfl) (Nat.le_of_ble_eq_true rfl) dX5_rank_137
              · replace c25 : ¬ (kq ≤ i) := fun h => c25 ((nI_leI (a := kq) (b := i) (by omega) (by omega)).mpr h)
                refine lv_aload_n hx hb dX5_rank_92 rfl (lv_at hl 0 rfl) ?_
                refine z_get (v := .ref ra) C hz a21 zl5 mFX5_17 (by decide) rfl dX5_rank_93 ?_
                refine lv_iload hx hb dX5_rank_96 (lv_at hl 3 rfl) ?_
                refine lv_aload_n hx hb dX5_rank_98 rfl (lv_at hl 0 rfl) ?_
                refine z_get (v := .ref ra) C hz a21 zl5 mFX5_17 (by decide) rfl dX5_rank_99 ?_
                refine lv_iload hx hb dX5_rank_102 (lv_at hl 3 rfl) ?_
                refine lv_iconst (v := 1) hx hb dX5_rank_104 (by decide) ?_
                refine lv_isub hx hb dX5_rank_105 ?_
                refine lv_topi (fun y31 e32 => ?_)
                obtain rfl : y31 = nI (kq - 1) := e32.trans (pk_sub (a := kq) (b := 1) (by omega))
                obtain ⟨j3, hj3, hgj3⟩ := hgrv (kq - 1) (Or.inl (by omega))
                refine z_aldq (kq - 1) C hz a23 rfl rfl (by omega) (by omega) dX5_rank_106 ?_
                rw [hgj3]
                refine W.eq (g2 := F0 m 107 ls [.ref (fg j3), .int (nI kq), .ref ra]) rfl ?_
                have a36 : fL19 (fg j3) = some (.inr (4, [.int (kd j3), .ref (pt j3), .long (wg j3), .int (wd j3), .int (nI j3), .int (hs j3), .int (bfv j3)])) := F24 j3 hj3
                refine z_astq kq C hz hS a23 rfl a36 zl4 rfl (by omega) (by omega) dX5_rank_107 (fun H locs f33 a34 k35 hz hS => ?_)
                refine lv_aload_n hx hb dX5_rank_108 rfl (lv_at hl 0 rfl) ?_
                have a37 : f33 h = some (.inr (5, [.ref al, .ref ra, .int (nI nn)])) := (k35 _ (z_ne a21 a23 rfl)).trans a21
                refine z_get (v := .ref ra) C hz a37 zl5 mFX5_17 (by decide) rfl dX5_rank_109 ?_
                refine lv_iload hx hb dX5_rank_112 (lv_at hl 3 rfl) ?_
                refine z_aldq kq C hz a34 rfl rfl (by omega) (by omega) dX5_rank_114 ?_
                rw [va_up_self]
                refine W.eq (g2 := F0 m 115 ls [.ref (fg j3)]) rfl ?_
                refine lv_dup hx hb dX5_rank_115 rfl ?_
                have a38 : f33 (fg j3) = some (.inr (4, [.int (kd j3), .ref (pt j3), .long (wg j3), .int (wd j3), .int (nI j3), .int (hs j3), .int (bfv j3)])) := (k35 _ (z_ne a36 a23 rfl)).trans a36
                refine z_getN (v := .int (bfv j3)) C hz a38 zl4 mFNX5_69 (by decide) rfl dX5_rank_116 ?_
                refine lv_iconst (v := 1) hx hb dX5_rank_119 (by decide) ?_
                refine lv_iadd hx hb dX5_rank_120 ?_
                refine z_putN (fs' := [.int (kd j3), .ref (pt j3), .long (wg j3), .int (wd j3), .int (nI j3), .int (hs j3), .int ((bfv j3) + 1)]) C hz hS a38 zl4 mFNX5_69 (by decide) rfl rfl rfl (Nat.le_of_ble_eq_true rfl) rfl dX5_rank_121 (fun H locs f39 a40 k41 hz hS => ?_)
                have F42 : ∀ i9 : Nat, i9 < nn → f33 (fg i9) = some (.inr (4, [.int (kd i9), .ref (pt i9), .long (wg i9), .int (wd i9), .int (nI i9), .int (hs i9), .int (bfv i9)])) := fun i9 h9 => (k35 _ (z_ne (F24 i9 h9) a23 rfl)).trans (F24 i9 h9)
                have F43 : ∀ i9 : Nat, i9 < nn → f39 (fg i9) = some (.inr (4, [.int (kd i9), .ref (pt i9), .long (wg i9), .int (wd i9), .int (nI i9), .int (hs i9), .int (va_up bfv j3 ((bfv j3) + 1) i9)])) := z_famW (T := fun i9 => .inr (4, [.int (kd i9), .ref (pt i9), .long (wg i9), .int (wd i9), .int (nI i9), .int (hs i9), .int (bfv i9)])) (T' := fun i9 => .inr (4, [.int (kd i9), .ref (pt i9), .long (wg i9), .int (wd i9), .int (nI i9), .int (hs i9), .int (va_up bfv j3 ((bfv j3) + 1) i9)])) F42 hj3 (by simp only [va_up_self]; exact a40) k41 (fun i9 h9 => by simp only [va_up_ne _ _ h9]) (fun i9 h9 => hfi i9 h9 j3 hj3)
                refine lv_iinc (v := nI (kq - 1)) (lv' := [(4, .int (nI (kq - 1))), (0, .ref h), (1, .ref q), (2, .int (nI i))]) hx hb dX5_rank_124 hl (k := 3) rfl (z_dec (by omega)) (by decide) rfl (fun ls hl => ?_)
                refine lv_goto (tgt := 86) hx hb dX5_rank_127 (by decide) ?_
                have a44 : f39 ra = some (.inl (cy 3, 60, .inr (.inr (.inr (.inr (va_up grv kq (some (fg j3)))))))) := (k41 _ (z_ne a34 a38 rfl)).trans a34
                have a45 : f33 q = some (.inr (4, [.int kdq, .ref pa, .long wgq, .int wdq, .int nuq, .int hsq, .int (nI i)])) := (k35 _ (z_ne a22 a23 rfl)).trans a22
                have a46 : f39 q = some (.inr (4, [.int kdq, .ref pa, .long wgq, .int wdq, .int nuq, .int hsq, .int (nI i)])) := (k41 _ ((fun j9 h8 => Ne.symm (hq j9 h8)) j3 hj3)).trans a45
                have a47 : f39 h = some (.inr (5, [.ref al, .ref ra, .int (nI nn)])) := (k41 _ (z_ne a37 a38 rfl)).trans a37
                exact ih (kq - 1) (va_up grv kq (some (fg j3))) (va_up bfv j3 ((bfv j3) + 1)) _ _ _ _ (by omega) (by omega) (by omega) (z_shift hgrv (by omega) hj3) (fun k9 h9 h8 => (va_up_ne _ _ (by omega)).trans (hg1 k9 h9 (by omega))) (fun k9 h9 h8 => by by_cases q9 : k9 = kq; rw [q9, va_up_self]; exact hgj3.symm.trans (hg1 (kq - 1) (by omega) (by omega)); exact (va_up_ne _ _ q9).trans (hg2 k9 (by omega) h8)) (zRK_b hfi hgi (by omega) hkn hbv hj3 ((hg1 (kq - 1) (by omega) (by omega)).symm.trans hgj3)) a47 a46 a44 F43 (by
                      intro b e hb n0 n1
                      have hb2 : fL19 b = some e := k20 b e hb n0 n1
                      have hb3 : f33 b = some e := (k35 b n0).trans hb2
                      have hb4 : f39 b = some e := (k41 b (n1 j3 hj3)).trans hb3
                      exact hb4) hz hS (lv_sub hl [1, 2, 3, 0] rfl)
          have a48 : f14 ra = some (.inl (cy 3, 60, .inr (.inr (.inr (.inr gr))))) := (k16 _ (z_ne a6 a7 rfl)).trans a6
          have F49 : ∀ i9 : Nat, i9 < nn → f14 (fg i9) = some (.inr (4, [.int (kd i9), .ref (pt i9), .long (wg i9), .int (wd i9), .int (nI i9), .int (hs i9), .int (bf i9)])) := fun i9 h9 => (k16 _ (hq i9 h9)).trans (F9 i9 h9)
          exact lp18 (nn + 1) nn gr bf _ _ _ _ (Nat.lt_succ_self _) (by omega) (by omega) (fun k' h' => hgr k' (by omega)) (fun _ _ _ => rfl) (fun k9 h9 h8 => absurd h9 (by omega)) (fun j9 h9 k9 h8 _ => by rw [if_neg (by omega)]) a17 a15 a48 F49 (fun b e hb n0 n1 => hb) hz hS (lv_sub hl [2, 3, 4, 0] rfl)
        · replace c12 : ¬ (i ≤ 0) := fun h => c12 ((nI_leI (a := i) (b := 0) (by omega) (by omega)).mpr h)
          refine lv_aload_n hx hb dX5_rank_35 rfl (lv_at hl 0 rfl) ?_
          refine lv_aload_n hx hb dX5_rank_36 rfl (lv_at hl 0 rfl) ?_
          refine z_get (v := .ref ra) C hz a4 zl5 mFX5_17 (by decide) rfl dX5_rank_37 ?_
          refine lv_iload_n hx hb dX5_rank_40 rfl (lv_at hl 2 rfl) ?_
          refine lv_iconst (v := 1) hx hb dX5_rank_41 (by decide) ?_
          refine lv_isub hx hb dX5_rank_42 ?_
          refine lv_topi (fun y50 e51 => ?_)
          obtain rfl : y50 = nI (i - 1) := e51.trans (pk_sub (a := i) (b := 1) (by omega))
          obtain ⟨j2, hj2, hgj2⟩ := hgr (i - 1) (by omega)
          refine z_aldq (i - 1) C hz a6 rfl rfl (by omega) (by omega) dX5_rank_43 ?_
          rw [hgj2]
          refine W.eq (g2 := F0 m 44 ls [.ref (fg j2), .ref h]) rfl ?_
          refine lv_aload_n hx hb dX5_rank_44 rfl (lv_at hl 1 rfl) ?_
          have a52 : fL2 (fg j2) = some (.inr (4, [.int (kd j2), .ref (pt j2), .long (wg j2), .int (wd j2), .int (nI j2), .int (hs j2), .int (bf j2)])) := F9 j2 hj2
          have a53 : fL2 (pt j2) = some (.inl (cy 1, (ln j2), .inr (.inl (pp j2)))) := F10 j2 hj2
          refine z_callVi (As := [.ref (fg j2), .ref q]) C hz hS hA hl (k_X5_compare l D cy fL2 h al ra ga nn fg pt kd ln pp wg wd hs bf (fg j2) (kd j2) (pt j2) (wg j2) (wd j2) (nI j2) (hs j2) (bf j2) (ln j2) (pp j2) q kdq pa wgq wdq nuq hsq bfq t gp a4 a5 a52 a7 a53 a8 F9 (by omega) hga (by have h9 := hln j2 hj2; omega) (by omega) (hk5 j2 hj2) h5q) zyX5_compare mMX5_65 a4 zl5 rfl rfl (Nat.le_of_ble_eq_true rfl) ⟨Nat.le_of_ble_eq_true rfl, Nat.le_of_ble_eq_true rfl⟩ ⟨Nat.le_of_ble_eq_true rfl, Nat.le_of_ble_eq_true rfl⟩ dX5_rank_45 (fun r f54 H locs h55 hz hS => ?_)
          obtain ⟨rfl, k56⟩ := h55
          refine lv_if_ne (tgt := 55) hx hb dX5_rank_48 (by decide) (fun c57 => ?_) (fun c57 => ?_)
          · refine lv_iconst (v := 0) hx hb dX5_rank_55 (by decide) ?_
            refine lv_istore_n (lv' := [(3, .int 0), (0, .ref h), (1, .ref q), (2, .int (nI i))]) hx hb dX5_rank_56 rfl hl (by decide) rfl (fun ls hl => ?_)
            refine lv_aload_n hx hb dX5_rank_57 rfl (lv_at hl 2 rfl) ?_
            refine lv_iload_n hx hb dX5_rank_58 rfl (lv_at hl 0 rfl) ?_
            refine lv_if_eq (tgt := 76) hx hb dX5_rank_59 (by decide) (fun c58 => ?_) (fun c58 => ?_)
            rotate_left
            · exact absurd c58 (by decide)
            refine lv_iload_n hx hb dX5_rank_76 rfl (lv_at hl 3 rfl) ?_
            have a59 : f54 q = some (.inr (4, [.int kdq, .ref pa, .long wgq, .int wdq, .int nuq, .int hsq, .int bfq])) := k56 _ _ a7 
            refine z_putN (fs' := [.int kdq, .ref pa, .long wgq, .int wdq, .int nuq, .int hsq, .int (nI i)]) C hz hS a59 zl4 mFNX5_69 (by decide) rfl rfl rfl (Nat.le_of_ble_eq_true rfl) rfl dX5_rank_77 (fun H locs f60 a61 k62 hz hS => ?_)
            refine lv_aload_n hx hb dX5_rank_80 rfl (lv_at hl 1 rfl) ?_
            have a63 : f54 h = some (.inr (5, [.ref al, .ref ra, .int (nI nn)])) := k56 _ _ a4 
            have a64 : f60 h = some (.inr (5, [.ref al, .ref ra, .int (nI nn)])) := (k62 _ (z_ne a63 a59 rfl)).trans a63
            refine z_get (v := .int (nI nn)) C hz a64 zl5 mFX5_20 (by decide) rfl dX5_rank_81 ?_
            refine lv_istore (lv' := [(4, .int (nI nn)), (3, .int 0), (0, .ref h), (1, .ref q), (2, .int (nI i))]) hx hb dX5_rank_84 hl (by decide) rfl (fun ls hl => ?_)
            have lp65 : ∀ (n : Nat) (kq : Nat) (grv : Nat → Option Nat) (bfv : Nat → Int32) (fL66 : zM) (H : Heap) (locs : List Loc) (ls : Array Slot), (kq) < n → (i ≤ kq) → (kq ≤ nn) → (∀ k', (k' < nn ∨ (kq < k' ∧ k' ≤ nn)) → ∃ j, j < nn ∧ grv k' = some (fg j)) → (∀ k', k' < nn → k' ≤ kq → grv k' = gr k') → (∀ k', kq < k' → k' ≤ nn → grv k' = gr (k' - 1)) → (∀ j, j < nn → ∀ k, k < nn → gr k = some (fg j) → bfv j = if kq ≤ k then bf j + 1 else bf j) → fL66 h = some (.inr (5, [.ref al, .ref ra, .int (nI nn)])) → fL66 q = some (.inr (4, [.int kdq, .ref pa, .long wgq, .int wdq, .int nuq, .int hsq, .int (nI i)])) → fL66 ra = some (.inl (cy 3, 60, .inr (.inr (.inr (.inr grv))))) → (∀ i9 : Nat, i9 < nn → fL66 (fg i9) = some (.inr (4, [.int (kd i9), .ref (pt i9), .long (wg i9), .int (wd i9), .int (nI i9), .int (hs i9), .int (bfv i9)]))) → (∀ (b : Nat) (e : va_E), f60 b = some e → b ≠ ra → (∀ j9 : Nat, j9 < nn → b ≠ fg j9) → fL66 b = some e) → zH D (zA f s.heap.size) fL66 H → va_S (zA f s.heap.size) s.heap H locs → lv_has ls 5 [(0, .ref h), (1, .ref q), (2, .int (nI i)), (4, .int (nI kq))] → W p l e rmX5_rank s m ([.ref h, .ref q] : List Value).toArray below meth c H locs 0 0 (MQ below (va_Qv (fun (f1 : zM) => ∃ (bq : Int32) (gr1 : Nat → Option Nat) (bf1 : Nat → Int32), (∀ k, k < nn + 1 → gr1 k = some q ∨ ∃ j, j < nn ∧ gr1 k = some (fg j)) ∧ (zRI nn fg gr bf (fun j => zCM nn bf (kd j) (ln j) (pp j) (nI j) kdq t gp nuq) q gr1 bf1 bq) ∧ f1 q = some (.inr (4, [.int kdq, .ref pa, .long wgq, .int wdq, .int nuq, .int hsq, .int bq])) ∧ f1 ra = some (.inl (cy 3, 60, .inr (.inr (.inr (.inr gr1))))) ∧ (∀ i9 : Nat, i9 < nn → f1 (fg i9) = some (.inr (4, [.int (kd i9), .ref (pt i9), .long (wg i9), .int (wd i9), .int (nI i9), .int (hs i9), .int (bf1 i9)]))) ∧ (∀ (b : Nat) (e : va_E), f b = some e → b ≠ q → b ≠ ra → (∀ j9 : Nat, j9 < nn → b ≠ fg j9) → f1 b = some e)) (zB D f s.heap.size) (zA f s.heap.size)) ([.ref h, .ref q] : List Value).toArray s rmX5_rank.cells rmX5_rank.slots (zA f s.heap.size)) (F0 m 86 ls []) := by
              intro n
              induction n with
              | zero => intro kq grv bfv fL66 H locs ls hmz; exact absurd hmz (Nat.not_lt_zero _)
              | succ n ih =>
                intro kq grv bfv fL66 H locs ls hmz hik hkn hgrv hg1 hg2 hbv a68 a69 a70 F71 k67 hz hS hl
                refine lv_iload hx hb dX5_rank_86 (lv_at hl 3 rfl) ?_
                refine lv_iload_n hx hb dX5_rank_88 rfl (lv_at hl 2 rfl) ?_
                refine lv_icmp_le (tgt := 130) hx hb dX5_rank_89 (by decide) (fun c72 => ?_) (fun c72 => ?_)
                · replace c72 : (kq ≤ i) := (nI_leI (a := kq) (b := i) (by omega) (by omega)).mp c72
                  refine lv_aload_n hx hb dX5_rank_130 rfl (lv_at hl 0 rfl) ?_
                  refine z_get (v := .ref ra) C hz a68 zl5 mFX5_17 (by decide) rfl dX5_rank_131 ?_
                  refine lv_iload_n hx hb dX5_rank_134 rfl (lv_at hl 2 rfl) ?_
                  refine lv_aload_n hx hb dX5_rank_135 rfl (lv_at hl 1 rfl) ?_
                  refine z_astq i C hz hS a70 rfl a69 zl4 rfl (by omega) (by omega) dX5_rank_136 (fun H locs f73 a74 k75 hz hS => ?_)
                  have a76 : f73 q = some (.inr (4, [.int kdq, .ref pa, .long wgq, .int wdq, .int nuq, .int hsq, .int (nI i)])) := (k75 _ (z_ne a69 a70 rfl)).trans a69
                  have F77 : ∀ i9 : Nat, i9 < nn → f73 (fg i9) = some (.inr (4, [.int (kd i9), .ref (pt i9), .long (wg i9), .int (wd i9), .int (nI i9), .int (hs i9), .int (bfv i9)])) := fun i9 h9 => (k75 _ (z_ne (F71 i9 h9) a70 rfl)).trans (F71 i9 h9)
                  exact z_vret C hr hz hS ⟨(nI i), (va_up grv i (some q)), bfv, (z_rk hgrv (by omega) (by omega) (by omega)), ⟨i, by omega, (fun k9 h9 => (va_up_ne _ _ (by omega)).trans (hg1 k9 (by omega) (by omega))), va_up_self _ _ _, (fun k9 h9 h8 => (va_up_ne _ _ (by omega)).trans (hg2 (k9 + 1) (by omega) (by omega))), (fun j9 h9 k9 h8 e9 => by rw [hbv j9 h9 k9 h8 e9, show kq = i by omega]), (fun k9 h9 h8 => hgt k9 h9 h8), (fun h9 => absurd h9 (by omega)), (fun _ j9 h9 e9 => by obtain rfl : j2 = j9 := hfi _ hj2 _ h9 (Option.some.inj (hgj2.symm.trans e9)); exact ⟨(absurd c12 (by omega)), by rw [if_neg c57]⟩)⟩, a76, a74, F77, (by
                        intro b e hb n0 n1 n2
                        have hb0 : fL2 b = some e := k3 b e hb 
                        have hb1 : f54 b = some e := k56 b e hb0 
                        have hb2 : f60 b = some e := (k62 b n0).trans hb1
                        have hb3 : fL66 b = some e := k67 b e hb2 n1 n2
                        have hb4 : f73 b = some e := (k75 b n1).trans hb3
                        exact hb4)⟩ (Nat.le_of_ble_eq_true rfl) (Nat.le_of_ble_eq_true rfl) dX5_rank_137
                · replace c72 : ¬ (kq ≤ i) := fun h => c72 ((nI_leI (a := kq) (b := i) (by omega) (by omega)).mpr h)
                  refine lv_aload_n hx hb dX5_rank_92 rfl (lv_at hl 0 rfl) ?_
                  refine z_get (v := .ref ra) C hz a68 zl5 mFX5_17 (by decide) rfl dX5_rank_93 ?_
                  refine lv_iload hx hb dX5_rank_96 (lv_at hl 3 rfl) ?_
                  refine lv_aload_n hx hb dX5_rank_98 rfl (lv_at hl 0 rfl) ?_
                  refine z_get (v := .ref ra) C hz a68 zl5 mFX5_17 (by decide) rfl dX5_rank_99 ?_
                  refine lv_iload hx hb dX5_rank_102 (lv_at hl 3 rfl) ?_
                  refine lv_iconst (v := 1) hx hb dX5_rank_104 (by decide) ?_
                  refine lv_isub hx hb dX5_rank_105 ?_
                  refine lv_topi (fun y78 e79 => ?_)
                  obtain rfl : y78 = nI (kq - 1) := e79.trans (pk_sub (a := kq) (b := 1) (by omega))
                  obtain ⟨j3, hj3, hgj3⟩ := hgrv (kq - 1) (Or.inl (by omega))
                  refine z_aldq (kq - 1) C hz a70 rfl rfl (by omega) (by omega) dX5_rank_106 ?_
                  rw [hgj3]
                  refine W.eq (g2 := F0 m 107 ls [.ref (fg j3), .int (nI kq), .ref ra]) rfl ?_
                  have a83 : fL66 (fg j3) = some (.inr (4, [.int (kd j3), .ref (pt j3), .long (wg j3), .int (wd j3), .int (nI j3), .int (hs j3), .int (bfv j3)])) := F71 j3 hj3
                  refine z_astq kq C hz hS a70 rfl a83 zl4 rfl (by omega) (by omega) dX5_rank_107 (fun H locs f80 a81 k82 hz hS => ?_)
                  refine lv_aload_n hx hb dX5_rank_108 rfl (lv_at hl 0 rfl) ?_
                  have a84 : f80 h = some (.inr (5, [.ref al, .ref ra, .int (nI nn)])) := (k82 _ (z_ne a68 a70 rfl)).trans a68
                  refine z_get (v := .ref ra) C hz a84 zl5 mFX5_17 (by decide) rfl dX5_rank_109 ?_
                  refine lv_iload hx hb dX5_rank_112 (lv_at hl 3 rfl) ?_
                  refine z_aldq kq C hz a81 rfl rfl (by omega) (by omega) dX5_rank_114 ?_
                  rw [va_up_self]
                  refine W.eq (g2 := F0 m 115 ls [.ref (fg j3)]) rfl ?_
                  refine lv_dup hx hb dX5_rank_115 rfl ?_
                  have a85 : f80 (fg j3) = some (.inr (4, [.int (kd j3), .ref (pt j3), .long (wg j3), .int (wd j3), .int (nI j3), .int (hs j3), .int (bfv j3)])) := (k82 _ (z_ne a83 a70 rfl)).trans a83
                  refine z_getN (v := .int (bfv j3)) C hz a85 zl4 mFNX5_69 (by decide) rfl dX5_rank_116 ?_
                  refine lv_iconst (v := 1) hx hb dX5_rank_119 (by decide) ?_
                  refine lv_iadd hx hb dX5_rank_120 ?_
                  refine z_putN (fs' := [.int (kd j3), .ref (pt j3), .long (wg j3), .int (wd j3), .int (nI j3), .int (hs j3), .int ((bfv j3) + 1)]) C hz hS a85 zl4 mFNX5_69 (by decide) rfl rfl rfl (Nat.le_of_ble_eq_true rfl) rfl dX5_rank_121 (fun H locs f86 a87 k88 hz hS => ?_)
                  have F89 : ∀ i9 : Nat, i9 < nn → f80 (fg i9) = some (.inr (4, [.int (kd i9), .ref (pt i9), .long (wg i9), .int (wd i9), .int (nI i9), .int (hs i9), .int (bfv i9)])) := fun i9 h9 => (k82 _ (z_ne (F71 i9 h9) a70 rfl)).trans (F71 i9 h9)
                  have F90 : ∀ i9 : Nat, i9 < nn → f86 (fg i9) = some (.inr (4, [.int (kd i9), .ref (pt i9), .long (wg i9), .int (wd i9), .int (nI i9), .int (hs i9), .int (va_up bfv j3 ((bfv j3) + 1) i9)])) := z_famW (T := fun i9 => .inr (4, [.int (kd i9), .ref (pt i9), .long (wg i9), .int (wd i9), .int (nI i9), .int (hs i9), .int (bfv i9)])) (T' := fun i9 => .inr (4, [.int (kd i9), .ref (pt i9), .long (wg i9), .int (wd i9), .int (nI i9), .int (hs i9), .int (va_up bfv j3 ((bfv j3) + 1) i9)])) F89 hj3 (by simp only [va_up_self]; exact a87) k88 (fun i9 h9 => by simp only [va_up_ne _ _ h9]) (fun i9 h9 => hfi i9 h9 j3 hj3)
                  refine lv_iinc (v := nI (kq - 1)) (lv' := [(4, .int (nI (kq - 1))), (0, .ref h), (1, .ref q), (2, .int (nI i))]) hx hb dX5_rank_124 hl (k := 3) rfl (z_dec (by omega)) (by decide) rfl (fun ls hl => ?_)
                  refine lv_goto (tgt := 86) hx hb dX5_rank_127 (by decide) ?_
                  have a91 : f86 ra = some (.inl (cy 3, 60, .inr (.inr (.inr (.inr (va_up grv kq (some (fg j3)))))))) := (k88 _ (z_ne a81 a85 rfl)).trans a81
                  have a92 : f80 q = some (.inr (4, [.int kdq, .ref pa, .long wgq, .int wdq, .int nuq, .int hsq, .int (nI i)])) := (k82 _ (z_ne a69 a70 rfl)).trans a69
                  have a93 : f86 q = some (.inr (4, [.int kdq, .ref pa, .long wgq, .int wdq, .int nuq, .int hsq, .int (nI i)])) := (k88 _ ((fun j9 h8 => Ne.symm (hq j9 h8)) j3 hj3)).trans a92
                  have a94 : f86 h = some (.inr (5, [.ref al, .ref ra, .int (nI nn)])) := (k88 _ (z_ne a84 a85 rfl)).trans a84
                  exact ih (kq - 1) (va_up grv kq (some (fg j3))) (va_up bfv j3 ((bfv j3) + 1)) _ _ _ _ (by omega) (by omega) (by omega) (z_shift hgrv (by omega) hj3) (fun k9 h9 h8 => (va_up_ne _ _ (by omega)).trans (hg1 k9 h9 (by omega))) (fun k9 h9 h8 => by by_cases q9 : k9 = kq; rw [q9, va_up_self]; exact hgj3.symm.trans (hg1 (kq - 1) (by omega) (by omega)); exact (va_up_ne _ _ q9).trans (hg2 k9 (by omega) h8)) (zRK_b hfi hgi (by omega) hkn hbv hj3 ((hg1 (kq - 1) (by omega) (by omega)).symm.trans hgj3)) a94 a93 a91 F90 (by
                        intro b e hb n0 n1
                        have hb3 : fL66 b = some e := k67 b e hb n0 n1
                        have hb4 : f80 b = some e := (k82 b n0).trans hb3
                        have hb5 : f86 b = some e := (k88 b (n1 j3 hj3)).trans hb4
                        exact hb5) hz hS (lv_sub hl [1, 2, 3, 0] rfl)
            have a95 : f54 ra = some (.inl (cy 3, 60, .inr (.inr (.inr (.inr gr))))) := k56 _ _ a6 
            have a96 : f60 ra = some (.inl (cy 3, 60, .inr (.inr (.inr (.inr gr))))) := (k62 _ (z_ne a95 a59 rfl)).trans a95
            have F97 : ∀ i9 : Nat, i9 < nn → f54 (fg i9) = some (.inr (4, [.int (kd i9), .ref (pt i9), .long (wg i9), .int (wd i9), .int (nI i9), .int (hs i9), .int (bf i9)])) := fun i9 h9 => k56 _ _ (F9 i9 h9) 
            have F98 : ∀ i9 : Nat, i9 < nn → f60 (fg i9) = some (.inr (4, [.int (kd i9), .ref (pt i9), .long (wg i9), .int (wd i9), .int (nI i9), .int (hs i9), .int (bf i9)])) := fun i9 h9 => (k62 _ (hq i9 h9)).trans (F97 i9 h9)
            exact lp65 (nn + 1) nn gr bf _ _ _ _ (Nat.lt_succ_self _) (by omega) (by omega) (fun k' h' => hgr k' (by omega)) (fun _ _ _ => rfl) (fun k9 h9 h8 => absurd h9 (by omega)) (fun j9 h9 k9 h8 _ => by rw [if_neg (by omega)]) a64 a61 a96 F98 (fun b e hb n0 n1 => hb) hz hS (lv_sub hl [2, 3, 4, 0] rfl)
          · refine lv_iconst (v := 1) hx hb dX5_rank_51 (by decide) ?_
            refine lv_goto (tgt := 56) hx hb dX5_rank_52 (by decide) ?_
            refine lv_istore_n (lv' := [(3, .int 1), (0, .ref h), (1, .ref q), (2, .int (nI i))]) hx hb dX5_rank_56 rfl hl (by decide) rfl (fun ls hl => ?_)
            refine lv_aload_n hx hb dX5_rank_57 rfl (lv_at hl 2 rfl) ?_
            refine lv_iload_n hx hb dX5_rank_58 rfl (lv_at hl 0 rfl) ?_
            refine lv_if_eq (tgt := 76) hx hb dX5_rank_59 (by decide) (fun c99 => ?_) (fun c99 => ?_)
            · exact absurd c99 (by decide)
            refine lv_aload_n hx hb dX5_rank_62 rfl (lv_at hl 1 rfl) ?_
            have a100 : f54 h = some (.inr (5, [.ref al, .ref ra, .int (nI nn)])) := k56 _ _ a4 
            refine z_get (v := .ref ra) C hz a100 zl5 mFX5_17 (by decide) rfl dX5_rank_63 ?_
            refine lv_iload_n hx hb dX5_rank_66 rfl (lv_at hl 3 rfl) ?_
            refine lv_iconst (v := 1) hx hb dX5_rank_67 (by decide) ?_
            refine lv_isub hx hb dX5_rank_68 ?_
            refine lv_topi (fun y101 e102 => ?_)
            obtain rfl : y101 = nI (i - 1) := e102.trans (pk_sub (a := i) (b := 1) (by omega))
            have a103 : f54 ra = some (.inl (cy 3, 60, .inr (.inr (.inr (.inr gr))))) := k56 _ _ a6 
            refine z_aldq (i - 1) C hz a103 rfl rfl (by omega) (by omega) dX5_rank_69 ?_
            rw [hgj2]
            refine W.eq (g2 := F0 m 70 ls [.ref (fg j2), .ref q]) rfl ?_
            have a104 : f54 (fg j2) = some (.inr (4, [.int (kd j2), .ref (pt j2), .long (wg j2), .int (wd j2), .int (nI j2), .int (hs j2), .int (bf j2)])) := k56 _ _ a52 
            refine z_getN (v := .int (bf j2)) C hz a104 zl4 mFNX5_69 (by decide) rfl dX5_rank_70 ?_
            refine lv_goto (tgt := 77) hx hb dX5_rank_73 (by decide) ?_
            have a105 : f54 q = some (.inr (4, [.int kdq, .ref pa, .long wgq, .int wdq, .int nuq, .int hsq, .int bfq])) := k56 _ _ a7 
            refine z_putN (fs' := [.int kdq, .ref pa, .long wgq, .int wdq, .int nuq, .int hsq, .int (bf j2)]) C hz hS a105 zl4 mFNX5_69 (by decide) rfl rfl rfl (Nat.le_of_ble_eq_true rfl) rfl dX5_rank_77 (fun H locs f106 a107 k108 hz hS => ?_)
            refine lv_aload_n hx hb dX5_rank_80 rfl (lv_at hl 1 rfl) ?_
            have a109 : f106 h = some (.inr (5, [.ref al, .ref ra, .int (nI nn)])) := (k108 _ (z_ne a100 a105 rfl)).trans a100
            refine z_get (v := .int (nI nn)) C hz a109 zl5 mFX5_20 (by decide) rfl dX5_rank_81 ?_
            refine lv_istore (lv' := [(4, .int (nI nn)), (3, .int 1), (0, .ref h), (1, .ref q), (2, .int (nI i))]) hx hb dX5_rank_84 hl (by decide) rfl (fun ls hl => ?_)
            have lp110 : ∀ (n : Nat) (kq : Nat) (grv : Nat → Option Nat) (bfv : Nat → Int32) (fL111 : zM) (H : Heap) (locs : List Loc) (ls : Array Slot), (kq) < n → (i ≤ kq) → (kq ≤ nn) → (∀ k', (k' < nn ∨ (kq < k' ∧ k' ≤ nn)) → ∃ j, j < nn ∧ grv k' = some (fg j)) → (∀ k', k' < nn → k' ≤ kq → grv k' = gr k') → (∀ k', kq < k' → k' ≤ nn → grv k' = gr (k' - 1)) → (∀ j, j < nn → ∀ k, k < nn → gr k = some (fg j) → bfv j = if kq ≤ k then bf j + 1 else bf j) → fL111 h = some (.inr (5, [.ref al, .ref ra, .int (nI nn)])) → fL111 q = some (.inr (4, [.int kdq, .ref pa, .long wgq, .int wdq, .int nuq, .int hsq, .int (bf j2)])) → fL111 ra = some (.inl (cy 3, 60, .inr (.inr (.inr (.inr grv))))) → (∀ i9 : Nat, i9 < nn → fL111 (fg i9) = some (.inr (4, [.int (kd i9), .ref (pt i9), .long (wg i9), .int (wd i9), .int (nI i9), .int (hs i9), .int (bfv i9)]))) → (∀ (b : Nat) (e : va_E), f106 b = some e → b ≠ ra → (∀ j9 : Nat, j9 < nn → b ≠ fg j9) → fL111 b = some e) → zH D (zA f s.heap.size) fL111 H → va_S (zA f s.heap.size) s.heap H locs → lv_has ls 5 [(0, .ref h), (1, .ref q), (2, .int (nI i)), (4, .int (nI kq))] → W p l e rmX5_rank s m ([.ref h, .ref q] : List Value).toArray below meth c H locs 0 0 (MQ below (va_Qv (fun (f1 : zM) => ∃ (bq : Int32) (gr1 : Nat → Option Nat) (bf1 : Nat → Int32), (∀ k, k < nn + 1 → gr1 k = some q ∨ ∃ j, j < nn ∧ gr1 k = some (fg j)) ∧ (zRI nn fg gr bf (fun j => zCM nn bf (kd j) (ln j) (pp j) (nI j) kdq t gp nuq) q gr1 bf1 bq) ∧ f1 q = some (.inr (4, [.int kdq, .ref pa, .long wgq, .int wdq, .int nuq, .int hsq, .int bq])) ∧ f1 ra = some (.inl (cy 3, 60, .inr (.inr (.inr (.inr gr1))))) ∧ (∀ i9 : Nat, i9 < nn → f1 (fg i9) = some (.inr (4, [.int (kd i9), .ref (pt i9), .long (wg i9), .int (wd i9), .int (nI i9), .int (hs i9), .int (bf1 i9)]))) ∧ (∀ (b : Nat) (e : va_E), f b = some e → b ≠ q → b ≠ ra → (∀ j9 : Nat, j9 < nn → b ≠ fg j9) → f1 b = some e)) (zB D f s.heap.size) (zA f s.heap.size)) ([.ref h, .ref q] : List Value).toArray s rmX5_rank.cells rmX5_rank.slots (zA f s.heap.size)) (F0 m 86 ls []) := by
              intro n
              induction n with
              | zero => intro kq grv bfv fL111 H locs ls hmz; exact absurd hmz (Nat.not_lt_zero _)
              | succ n ih =>
                intro kq grv bfv fL111 H locs ls hmz hik hkn hgrv hg1 hg2 hbv a113 a114 a115 F116 k112 hz hS hl
                refine lv_iload hx hb dX5_rank_86 (lv_at hl 3 rfl) ?_
                refine lv_iload_n hx hb dX5_rank_88 rfl (lv_at hl 2 rfl) ?_
                refine lv_icmp_le (tgt := 130) hx hb dX5_rank_89 (by decide) (fun c117 => ?_) (fun c117 => ?_)
                · replace c117 : (kq ≤ i) := (nI_leI (a := kq) (b := i) (by omega) (by omega)).mp c117
                  refine lv_aload_n hx hb dX5_rank_130 rfl (lv_at hl 0 rfl) ?_
                  refine z_get (v := .ref ra) C hz a113 zl5 mFX5_17 (by decide) rfl dX5_rank_131 ?_
                  refine lv_iload_n hx hb dX5_rank_134 rfl (lv_at hl 2 rfl) ?_
                  refine lv_aload_n hx hb dX5_rank_135 rfl (lv_at hl 1 rfl) ?_
                  refine z_astq i C hz hS a115 rfl a114 zl4 rfl (by omega) (by omega) dX5_rank_136 (fun H locs f118 a119 k120 hz hS => ?_)
                  have a121 : f118 q = some (.inr (4, [.int kdq, .ref pa, .long wgq, .int wdq, .int nuq, .int hsq, .int (bf j2)])) := (k120 _ (z_ne a114 a115 rfl)).trans a114
                  have F122 : ∀ i9 : Nat, i9 < nn → f118 (fg i9) = some (.inr (4, [.int (kd i9), .ref (pt i9), .long (wg i9), .int (wd i9), .int (nI i9), .int (hs i9), .int (bfv i9)])) := fun i9 h9 => (k120 _ (z_ne (F116 i9 h9) a115 rfl)).trans (F116 i9 h9)
                  exact z_vret C hr hz hS ⟨(bf j2), (va_up grv i (some q)), bfv, (z_rk hgrv (by omega) (by omega) (by omega)), ⟨i, by omega, (fun k9 h9 => (va_up_ne _ _ (by omega)).trans (hg1 k9 (by omega) (by omega))), va_up_self _ _ _, (fun k9 h9 h8 => (va_up_ne _ _ (by omega)).trans (hg2 (k9 + 1) (by omega) (by omega))), (fun j9 h9 k9 h8 e9 => by rw [hbv j9 h9 k9 h8 e9, show kq = i by omega]), (fun k9 h9 h8 => hgt k9 h9 h8), (fun h9 => absurd h9 (by omega)), (fun _ j9 h9 e9 => by obtain rfl : j2 = j9 := hfi _ hj2 _ h9 (Option.some.inj (hgj2.symm.trans e9)); exact ⟨(absurd c12 (by omega)), by rw [if_pos c57]⟩)⟩, a121, a119, F122, (by
                        intro b e hb n0 n1 n2
                        have hb0 : fL2 b = some e := k3 b e hb 
                        have hb1 : f54 b = some e := k56 b e hb0 
                        have hb2 : f106 b = some e := (k108 b n0).trans hb1
                        have hb3 : fL111 b = some e := k112 b e hb2 n1 n2
                        have hb4 : f118 b = some e := (k120 b n1).trans hb3
                        exact hb4)⟩ (Nat.le_of_ble_eq_true rfl) (Nat.le_of_ble_eq_true rfl) dX5_rank_137
                · replace c117 : ¬ (kq ≤ i) := fun h => c117 ((nI_leI (a := kq) (b := i) (by omega) (by omega)).mpr h)
                  refine lv_aload_n hx hb dX5_rank_92 rfl (lv_at hl 0 rfl) ?_
                  refine z_get (v := .ref ra) C hz a113 zl5 mFX5_17 (by decide) rfl dX5_rank_93 ?_
                  refine lv_iload hx hb dX5_rank_96 (lv_at hl 3 rfl) ?_
                  refine lv_aload_n hx hb dX5_rank_98 rfl (lv_at hl 0 rfl) ?_
                  refine z_get (v := .ref ra) C hz a113 zl5 mFX5_17 (by decide) rfl dX5_rank_99 ?_
                  refine lv_iload hx hb dX5_rank_102 (lv_at hl 3 rfl) ?_
                  refine lv_iconst (v := 1) hx hb dX5_rank_104 (by decide) ?_
                  refine lv_isub hx hb dX5_rank_105 ?_
                  refine lv_topi (fun y123 e124 => ?_)
                  obtain rfl : y123 = nI (kq - 1) := e124.trans (pk_sub (a := kq) (b := 1) (by omega))
                  obtain ⟨j3, hj3, hgj3⟩ := hgrv (kq - 1) (Or.inl (by omega))
                  refine z_aldq (kq - 1) C hz a115 rfl rfl (by omega) (by omega) dX5_rank_106 ?_
                  rw [hgj3]
                  refine W.eq (g2 := F0 m 107 ls [.ref (fg j3), .int (nI kq), .ref ra]) rfl ?_
                  have a128 : fL111 (fg j3) = some (.inr (4, [.int (kd j3), .ref (pt j3), .long (wg j3), .int (wd j3), .int (nI j3), .int (hs j3), .int (bfv j3)])) := F116 j3 hj3
                  refine z_astq kq C hz hS a115 rfl a128 zl4 rfl (by omega) (by omega) dX5_rank_107 (fun H locs f125 a126 k127 hz hS => ?_)
                  refine lv_aload_n hx hb dX5_rank_108 rfl (lv_at hl 0 rfl) ?_
                  have a129 : f125 h = some (.inr (5, [.ref al, .ref ra, .int (nI nn)])) := (k127 _ (z_ne a113 a115 rfl)).trans a113
                  refine z_get (v := .ref ra) C hz a129 zl5 mFX5_17 (by decide) rfl dX5_rank_109 ?_
                  refine lv_iload hx hb dX5_rank_112 (lv_at hl 3 rfl) ?_
                  refine z_aldq kq C hz a126 rfl rfl (by omega) (by omega) dX5_rank_114 ?_
                  rw [va_up_self]
                  refine W.eq (g2 := F0 m 115 ls [.ref (fg j3)]) rfl ?_
                  refine lv_dup hx hb dX5_rank_115 rfl ?_
                  have a130 : f125 (fg j3) = some (.inr (4, [.int (kd j3), .ref (pt j3), .long (wg j3), .int (wd j3), .int (nI j3), .int (hs j3), .int (bfv j3)])) := (k127 _ (z_ne a128 a115 rfl)).trans a128
                  refine z_getN (v := .int (bfv j3)) C hz a130 zl4 mFNX5_69 (by decide) rfl dX5_rank_116 ?_
                  refine lv_iconst (v := 1) hx hb dX5_rank_119 (by decide) ?_
                  refine lv_iadd hx hb dX5_rank_120 ?_
                  refine z_putN (fs' := [.int (kd j3), .ref (pt j3), .long (wg j3), .int (wd j3), .int (nI j3), .int (hs j3), .int ((bfv j3) + 1)]) C hz hS a130 zl4 mFNX5_69 (by decide) rfl rfl rfl (Nat.le_of_ble_eq_true rfl) rfl dX5_rank_121 (fun H locs f131 a132 k133 hz hS => ?_)
                  have F134 : ∀ i9 : Nat, i9 < nn → f125 (fg i9) = some (.inr (4, [.int (kd i9), .ref (pt i9), .long (wg i9), .int (wd i9), .int (nI i9), .int (hs i9), .int (bfv i9)])) := fun i9 h9 => (k127 _ (z_ne (F116 i9 h9) a115 rfl)).trans (F116 i9 h9)
                  have F135 : ∀ i9 : Nat, i9 < nn → f131 (fg i9) = some (.inr (4, [.int (kd i9), .ref (pt i9), .long (wg i9), .int (wd i9), .int (nI i9), .int (hs i9), .int (va_up bfv j3 ((bfv j3) + 1) i9)])) := z_famW (T := fun i9 => .inr (4, [.int (kd i9), .ref (pt i9), .long (wg i9), .int (wd i9), .int (nI i9), .int (hs i9), .int (bfv i9)])) (T' := fun i9 => .inr (4, [.int (kd i9), .ref (pt i9), .long (wg i9), .int (wd i9), .int (nI i9), .int (hs i9), .int (va_up bfv j3 ((bfv j3) + 1) i9)])) F134 hj3 (by simp only [va_up_self]; exact a132) k133 (fun i9 h9 => by simp only [va_up_ne _ _ h9]) (fun i9 h9 => hfi i9 h9 j3 hj3)
                  refine lv_iinc (v := nI (kq - 1)) (lv' := [(4, .int (nI (kq - 1))), (0, .ref h), (1, .ref q), (2, .int (nI i))]) hx hb dX5_rank_124 hl (k := 3) rfl (z_dec (by omega)) (by decide) rfl (fun ls hl => ?_)
                  refine lv_goto (tgt := 86) hx hb dX5_rank_127 (by decide) ?_
                  have a136 : f131 ra = some (.inl (cy 3, 60, .inr (.inr (.inr (.inr (va_up grv kq (some (fg j3)))))))) := (k133 _ (z_ne a126 a130 rfl)).trans a126
                  have a137 : f125 q = some (.inr (4, [.int kdq, .ref pa, .long wgq, .int wdq, .int nuq, .int hsq, .int (bf j2)])) := (k127 _ (z_ne a114 a115 rfl)).trans a114
                  have a138 : f131 q = some (.inr (4, [.int kdq, .ref pa, .long wgq, .int wdq, .int nuq, .int hsq, .int (bf j2)])) := (k133 _ ((fun j9 h8 => Ne.symm (hq j9 h8)) j3 hj3)).trans a137
                  have a139 : f131 h = some (.inr (5, [.ref al, .ref ra, .int (nI nn)])) := (k133 _ (z_ne a129 a130 rfl)).trans a129
                  exact ih (kq - 1) (va_up grv kq (some (fg j3))) (va_up bfv j3 ((bfv j3) + 1)) _ _ _ _ (by omega) (by omega) (by omega) (z_shift hgrv (by omega) hj3) (fun k9 h9 h8 => (va_up_ne _ _ (by omega)).trans (hg1 k9 h9 (by omega))) (fun k9 h9 h8 => by by_cases q9 : k9 = kq; rw [q9, va_up_self]; exact hgj3.symm.trans (hg1 (kq - 1) (by omega) (by omega)); exact (va_up_ne _ _ q9).trans (hg2 k9 (by omega) h8)) (zRK_b hfi hgi (by omega) hkn hbv hj3 ((hg1 (kq - 1) (by omega) (by omega)).symm.trans hgj3)) a139 a138 a136 F135 (by
                        intro b e hb n0 n1
                        have hb3 : fL111 b = some e := k112 b e hb n0 n1
                        have hb4 : f125 b = some e := (k127 b n0).trans hb3
                        have hb5 : f131 b = some e := (k133 b (n1 j3 hj3)).trans hb4
                        exact hb5) hz hS (lv_sub hl [1, 2, 3, 0] rfl)
            have a140 : f106 ra = some (.inl (cy 3, 60, .inr (.inr (.inr (.inr gr))))) := (k108 _ (z_ne a103 a105 rfl)).trans a103
            have F141 : ∀ i9 : Nat, i9 < nn → f54 (fg i9) = some (.inr (4, [.int (kd i9), .ref (pt i9), .long (wg i9), .int (wd i9), .int (nI i9), .int (hs i9), .int (bf i9)])) := fun i9 h9 => k56 _ _ (F9 i9 h9) 
            have F142 : ∀ i9 : Nat, i9 < nn → f106 (fg i9) = some (.inr (4, [.int (kd i9), .ref (pt i9), .long (wg i9), .int (wd i9), .int (nI i9), .int (hs i9), .int (bf i9)])) := fun i9 h9 => (k108 _ (hq i9 h9)).trans (F141 i9 h9)
            exact lp110 (nn + 1) nn gr bf _ _ _ _ (Nat.lt_succ_self _) (by omega) (by omega) (fun k' h' => hgr k' (by omega)) (fun _ _ _ => rfl) (fun k9 h9 h8 => absurd h9 (by omega)) (fun j9 h9 k9 h8 _ => by rw [if_neg (by omega)]) a109 a107 a140 F142 (fun b e hb n0 n1 => hb) hz hS (lv_sub hl [2, 3, 4, 0] rfl)
      · replace c11 : ¬ (i ≤ 0) := fun h => c11 ((nI_leI (a := i) (b := 0) (by omega) (by omega)).mpr h)
        refine lv_aload_n hx hb dX5_rank_9 rfl (lv_at hl 0 rfl) ?_
        refine lv_aload_n hx hb dX5_rank_10 rfl (lv_at hl 0 rfl) ?_
        refine z_get (v := .ref ra) C hz a4 zl5 mFX5_17 (by decide) rfl dX5_rank_11 ?_
        refine lv_iload_n hx hb dX5_rank_14 rfl (lv_at hl 2 rfl) ?_
        refine lv_iconst (v := 1) hx hb dX5_rank_15 (by decide) ?_
        refine lv_isub hx hb dX5_rank_16 ?_
        refine lv_topi (fun y143 e144 => ?_)
        obtain rfl : y143 = nI (i - 1) := e144.trans (pk_sub (a := i) (b := 1) (by omega))
        obtain ⟨j, hj, hgj⟩ := hgr (i - 1) (by omega)
        refine z_aldq (i - 1) C hz a6 rfl rfl (by omega) (by omega) dX5_rank_17 ?_
        rw [hgj]
        refine W.eq (g2 := F0 m 18 ls [.ref (fg j), .ref h]) rfl ?_
        refine lv_aload_n hx hb dX5_rank_18 rfl (lv_at hl 1 rfl) ?_
        have a145 : fL2 (fg j) = some (.inr (4, [.int (kd j), .ref (pt j), .long (wg j), .int (wd j), .int (nI j), .int (hs j), .int (bf j)])) := F9 j hj
        have a146 : fL2 (pt j) = some (.inl (cy 1, (ln j), .inr (.inl (pp j)))) := F10 j hj
        refine z_callVi (As := [.ref (fg j), .ref q]) C hz hS hA hl (k_X5_compare l D cy fL2 h al ra ga nn fg pt kd ln pp wg wd hs bf (fg j) (kd j) (pt j) (wg j) (wd j) (nI j) (hs j) (bf j) (ln j) (pp j) q kdq pa wgq wdq nuq hsq bfq t gp a4 a5 a145 a7 a146 a8 F9 (by omega) hga (by have h9 := hln j hj; omega) (by omega) (hk5 j hj) h5q) zyX5_compare mMX5_65 a4 zl5 rfl rfl (Nat.le_of_ble_eq_true rfl) ⟨Nat.le_of_ble_eq_true rfl, Nat.le_of_ble_eq_true rfl⟩ ⟨Nat.le_of_ble_eq_true rfl, Nat.le_of_ble_eq_true rfl⟩ dX5_rank_19 (fun r f147 H locs h148 hz hS => ?_)
        obtain ⟨rfl, k149⟩ := h148
        refine lv_if_le (tgt := 31) hx hb dX5_rank_22 (by decide) (fun c150 => ?_) (fun c150 => ?_)
        · refine lv_iload_n hx hb dX5_rank_31 rfl (lv_at hl 2 rfl) ?_
          refine lv_if_le (tgt := 55) hx hb dX5_rank_32 (by decide) (fun c151 => ?_) (fun c151 => ?_)
          · replace c151 : (i ≤ 0) := (nI_leI (a := i) (b := 0) (by omega) (by omega)).mp c151
            refine lv_iconst (v := 0) hx hb dX5_rank_55 (by decide) ?_
            refine lv_istore_n (lv' := [(3, .int 0), (0, .ref h), (1, .ref q), (2, .int (nI i))]) hx hb dX5_rank_56 rfl hl (by decide) rfl (fun ls hl => ?_)
            refine lv_aload_n hx hb dX5_rank_57 rfl (lv_at hl 2 rfl) ?_
            refine lv_iload_n hx hb dX5_rank_58 rfl (lv_at hl 0 rfl) ?_
            refine lv_if_eq (tgt := 76) hx hb dX5_rank_59 (by decide) (fun c152 => ?_) (fun c152 => ?_)
            rotate_left
            · exact absurd c152 (by decide)
            refine lv_iload_n hx hb dX5_rank_76 rfl (lv_at hl 3 rfl) ?_
            have a153 : f147 q = some (.inr (4, [.int kdq, .ref pa, .long wgq, .int wdq, .int nuq, .int hsq, .int bfq])) := k149 _ _ a7 
            refine z_putN (fs' := [.int kdq, .ref pa, .long wgq, .int wdq, .int nuq, .int hsq, .int (nI i)]) C hz hS a153 zl4 mFNX5_69 (by decide) rfl rfl rfl (Nat.le_of_ble_eq_true rfl) rfl dX5_rank_77 (fun H locs f154 a155 k156 hz hS => ?_)
            refine lv_aload_n hx hb dX5_rank_80 rfl (lv_at hl 1 rfl) ?_
            have a157 : f147 h = some (.inr (5, [.ref al, .ref ra, .int (nI nn)])) := k149 _ _ a4 
            have a158 : f154 h = some (.inr (5, [.ref al, .ref ra, .int (nI nn)])) := (k156 _ (z_ne a157 a153 rfl)).trans a157
            refine z_get (v := .int (nI nn)) C hz a158 zl5 mFX5_20 (by decide) rfl dX5_rank_81 ?_
            refine lv_istore (lv' := [(4, .int (nI nn)), (3, .int 0), (0, .ref h), (1, .ref q), (2, .int (nI i))]) hx hb dX5_rank_84 hl (by decide) rfl (fun ls hl => ?_)
            have lp159 : ∀ (n : Nat) (kq : Nat) (grv : Nat → Option Nat) (bfv : Nat → Int32) (fL160 : zM) (H : Heap) (locs : List Loc) (ls : Array Slot), (kq) < n → (i ≤ kq) → (kq ≤ nn) → (∀ k', (k' < nn ∨ (kq < k' ∧ k' ≤ nn)) → ∃ j, j < nn ∧ grv k' = some (fg j)) → (∀ k', k' < nn → k' ≤ kq → grv k' = gr k') → (∀ k', kq < k' → k' ≤ nn → grv k' = gr (k' - 1)) → (∀ j, j < nn → ∀ k, k < nn → gr k = some (fg j) → bfv j = if kq ≤ k then bf j + 1 else bf j) → fL160 h = some (.inr (5, [.ref al, .ref ra, .int (nI nn)])) → fL160 q = some (.inr (4, [.int kdq, .ref pa, .long wgq, .int wdq, .int nuq, .int hsq, .int (nI i)])) → fL160 ra = some (.inl (cy 3, 60, .inr (.inr (.inr (.inr grv))))) → (∀ i9 : Nat, i9 < nn → fL160 (fg i9) = some (.inr (4, [.int (kd i9), .ref (pt i9), .long (wg i9), .int (wd i9), .int (nI i9), .int (hs i9), .int (bfv i9)]))) → (∀ (b : Nat) (e : va_E), f154 b = some e → b ≠ ra → (∀ j9 : Nat, j9 < nn → b ≠ fg j9) → fL160 b = some e) → zH D (zA f s.heap.size) fL160 H → va_S (zA f s.heap.size) s.heap H locs → lv_has ls 5 [(0, .ref h), (1, .ref q), (2, .int (nI i)), (4, .int (nI kq))] → W p l e rmX5_rank s m ([.ref h, .ref q] : List Value).toArray below meth c H locs 0 0 (MQ below (va_Qv (fun (f1 : zM) => ∃ (bq : Int32) (gr1 : Nat → Option Nat) (bf1 : Nat → Int32), (∀ k, k < nn + 1 → gr1 k = some q ∨ ∃ j, j < nn ∧ gr1 k = some (fg j)) ∧ (zRI nn fg gr bf (fun j => zCM nn bf (kd j) (ln j) (pp j) (nI j) kdq t gp nuq) q gr1 bf1 bq) ∧ f1 q = some (.inr (4, [.int kdq, .ref pa, .long wgq, .int wdq, .int nuq, .int hsq, .int bq])) ∧ f1 ra = some (.inl (cy 3, 60, .inr (.inr (.inr (.inr gr1))))) ∧ (∀ i9 : Nat, i9 < nn → f1 (fg i9) = some (.inr (4, [.int (kd i9), .ref (pt i9), .long (wg i9), .int (wd i9), .int (nI i9), .int (hs i9), .int (bf1 i9)]))) ∧ (∀ (b : Nat) (e : va_E), f b = some e → b ≠ q → b ≠ ra → (∀ j9 : Nat, j9 < nn → b ≠ fg j9) → f1 b = some e)) (zB D f s.heap.size) (zA f s.heap.size)) ([.ref h, .ref q] : List Value).toArray s rmX5_rank.cells rmX5_rank.slots (zA f s.heap.size)) (F0 m 86 ls []) := by
              intro n
              induction n with
              | zero => intro kq grv bfv fL160 H locs ls hmz; exact absurd hmz (Nat.not_lt_zero _)
              | succ n ih =>
                intro kq grv bfv fL160 H locs ls hmz hik hkn hgrv hg1 hg2 hbv a162 a163 a164 F165 k161 hz hS hl
                refine lv_iload hx hb dX5_rank_86 (lv_at hl 3 rfl) ?_
                refine lv_iload_n hx hb dX5_rank_88 rfl (lv_at hl 2 rfl) ?_
                refine lv_icmp_le (tgt := 130) hx hb dX5_rank_89 (by decide) (fun c166 => ?_) (fun c166 => ?_)
                · replace c166 : (kq ≤ i) := (nI_leI (a := kq) (b := i) (by omega) (by omega)).mp c166
                  refine lv_aload_n hx hb dX5_rank_130 rfl (lv_at hl 0 rfl) ?_
                  refine z_get (v := .ref ra) C hz a162 zl5 mFX5_17 (by decide) rfl dX5_rank_131 ?_
                  refine lv_iload_n hx hb dX5_rank_134 rfl (lv_at hl 2 rfl) ?_
                  refine lv_aload_n hx hb dX5_rank_135 rfl (lv_at hl 1 rfl) ?_
                  refine z_astq i C hz hS a164 rfl a163 zl4 rfl (by omega) (by omega) dX5_rank_136 (fun H locs f167 a168 k169 hz hS => ?_)
                  have a170 : f167 q = some (.inr (4, [.int kdq, .ref pa, .long wgq, .int wdq, .int nuq, .int hsq, .int (nI i)])) := (k169 _ (z_ne a163 a164 rfl)).trans a163
                  have F171 : ∀ i9 : Nat, i9 < nn → f167 (fg i9) = some (.inr (4, [.int (kd i9), .ref (pt i9), .long (wg i9), .int (wd i9), .int (nI i9), .int (hs i9), .int (bfv i9)])) := fun i9 h9 => (k169 _ (z_ne (F165 i9 h9) a164 rfl)).trans (F165 i9 h9)
                  exact z_vret C hr hz hS ⟨(nI i), (va_up grv i (some q)), bfv, (z_rk hgrv (by omega) (by omega) (by omega)), ⟨i, by omega, (fun k9 h9 => (va_up_ne _ _ (by omega)).trans (hg1 k9 (by omega) (by omega))), va_up_self _ _ _, (fun k9 h9 h8 => (va_up_ne _ _ (by omega)).trans (hg2 (k9 + 1) (by omega) (by omega))), (fun j9 h9 k9 h8 e9 => by rw [hbv j9 h9 k9 h8 e9, show kq = i by omega]), (fun k9 h9 h8 => hgt k9 h9 h8), (fun h9 => by rw [h9]; decide), (fun h9 => absurd h9 (by omega))⟩, a170, a168, F171, (by
                        intro b e hb n0 n1 n2
                        have hb0 : fL2 b = some e := k3 b e hb 
                        have hb1 : f147 b = some e := k149 b e hb0 
                        have hb2 : f154 b = some e := (k156 b n0).trans hb1
                        have hb3 : fL160 b = some e := k161 b e hb2 n1 n2
                        have hb4 : f167 b = some e := (k169 b n1).trans hb3
                        exact hb4)⟩ (Nat.le_of_ble_eq_true rfl) (Nat.le_of_ble_eq_true rfl) dX5_rank_137
                · replace c166 : ¬ (kq ≤ i) := fun h => c166 ((nI_leI (a := kq) (b := i) (by omega) (by omega)).mpr h)
                  refine lv_aload_n hx hb dX5_rank_92 rfl (lv_at hl 0 rfl) ?_
                  refine z_get (v := .ref ra) C hz a162 zl5 mFX5_17 (by decide) rfl dX5_rank_93 ?_
                  refine lv_iload hx hb dX5_rank_96 (lv_at hl 3 rfl) ?_
                  refine lv_aload_n hx hb dX5_rank_98 rfl (lv_at hl 0 rfl) ?_
                  refine z_get (v := .ref ra) C hz a162 zl5 mFX5_17 (by decide) rfl dX5_rank_99 ?_
                  refine lv_iload hx hb dX5_rank_102 (lv_at hl 3 rfl) ?_
                  refine lv_iconst (v := 1) hx hb dX5_rank_104 (by decide) ?_
                  refine lv_isub hx hb dX5_rank_105 ?_
                  refine lv_topi (fun y172 e173 => ?_)
                  obtain rfl : y172 = nI (kq - 1) := e173.trans (pk_sub (a := kq) (b := 1) (by omega))
                  obtain ⟨j3, hj3, hgj3⟩ := hgrv (kq - 1) (Or.inl (by omega))
                  refine z_aldq (kq - 1) C hz a164 rfl rfl (by omega) (by omega) dX5_rank_106 ?_
                  rw [hgj3]
                  refine W.eq (g2 := F0 m 107 ls [.ref (fg j3), .int (nI kq), .ref ra]) rfl ?_
                  have a177 : fL160 (fg j3) = some (.inr (4, [.int (kd j3), .ref (pt j3), .long (wg j3), .int (wd j3), .int (nI j3), .int (hs j3), .int (bfv j3)])) := F165 j3 hj3
                  refine z_astq kq C hz hS a164 rfl a177 zl4 rfl (by omega) (by omega) dX5_rank_107 (fun H locs f174 a175 k176 hz hS => ?_)
                  refine lv_aload_n hx hb dX5_rank_108 rfl (lv_at hl 0 rfl) ?_
                  have a178 : f174 h = some (.inr (5, [.ref al, .ref ra, .int (nI nn)])) := (k176 _ (z_ne a162 a164 rfl)).trans a162
                  refine z_get (v := .ref ra) C hz a178 zl5 mFX5_17 (by decide) rfl dX5_rank_109 ?_
                  refine lv_iload hx hb dX5_rank_112 (lv_at hl 3 rfl) ?_
                  refine z_aldq kq C hz a175 rfl rfl (by omega) (by omega) dX5_rank_114 ?_
                  rw [va_up_self]
                  refine W.eq (g2 := F0 m 115 ls [.ref (fg j3)]) rfl ?_
                  refine lv_dup hx hb dX5_rank_115 rfl ?_
                  have a179 : f174 (fg j3) = some (.inr (4, [.int (kd j3), .ref (pt j3), .long (wg j3), .int (wd j3), .int (nI j3), .int (hs j3), .int (bfv j3)])) := (k176 _ (z_ne a177 a164 rfl)).trans a177
                  refine z_getN (v := .int (bfv j3)) C hz a179 zl4 mFNX5_69 (by decide) rfl dX5_rank_116 ?_
                  refine lv_iconst (v := 1) hx hb dX5_rank_119 (by decide) ?_
                  refine lv_iadd hx hb dX5_rank_120 ?_
                  refine z_putN (fs' := [.int (kd j3), .ref (pt j3), .long (wg j3), .int (wd j3), .int (nI j3), .int (hs j3), .int ((bfv j3) + 1)]) C hz hS a179 zl4 mFNX5_69 (by decide) rfl rfl rfl (Nat.le_of_ble_eq_true rfl) rfl dX5_rank_121 (fun H locs f180 a181 k182 hz hS => ?_)
                  have F183 : ∀ i9 : Nat, i9 < nn → f174 (fg i9) = some (.inr (4, [.int (kd i9), .ref (pt i9), .long (wg i9), .int (wd i9), .int (nI i9), .int (hs i9), .int (bfv i9)])) := fun i9 h9 => (k176 _ (z_ne (F165 i9 h9) a164 rfl)).trans (F165 i9 h9)
                  have F184 : ∀ i9 : Nat, i9 < nn → f180 (fg i9) = some (.inr (4, [.int (kd i9), .ref (pt i9), .long (wg i9), .int (wd i9), .int (nI i9), .int (hs i9), .int (va_up bfv j3 ((bfv j3) + 1) i9)])) := z_famW (T := fun i9 => .inr (4, [.int (kd i9), .ref (pt i9), .long (wg i9), .int (wd i9), .int (nI i9), .int (hs i9), .int (bfv i9)])) (T' := fun i9 => .inr (4, [.int (kd i9), .ref (pt i9), .long (wg i9), .int (wd i9), .int (nI i9), .int (hs i9), .int (va_up bfv j3 ((bfv j3) + 1) i9)])) F183 hj3 (by simp only [va_up_self]; exact a181) k182 (fun i9 h9 => by simp only [va_up_ne _ _ h9]) (fun i9 h9 => hfi i9 h9 j3 hj3)
                  refine lv_iinc (v := nI (kq - 1)) (lv' := [(4, .int (nI (kq - 1))), (0, .ref h), (1, .ref q), (2, .int (nI i))]) hx hb dX5_rank_124 hl (k := 3) rfl (z_dec (by omega)) (by decide) rfl (fun ls hl => ?_)
                  refine lv_goto (tgt := 86) hx hb dX5_rank_127 (by decide) ?_
                  have a185 : f180 ra = some (.inl (cy 3, 60, .inr (.inr (.inr (.inr (va_up grv kq (some (fg j3)))))))) := (k182 _ (z_ne a175 a179 rfl)).trans a175
                  have a186 : f174 q = some (.inr (4, [.int kdq, .ref pa, .long wgq, .int wdq, .int nuq, .int hsq, .int (nI i)])) := (k176 _ (z_ne a163 a164 rfl)).trans a163
                  have a187 : f180 q = some (.inr (4, [.int kdq, .ref pa, .long wgq, .int wdq, .int nuq, .int hsq, .int (nI i)])) := (k182 _ ((fun j9 h8 => Ne.symm (hq j9 h8)) j3 hj3)).trans a186
                  have a188 : f180 h = some (.inr (5, [.ref al, .ref ra, .int (nI nn)])) := (k182 _ (z_ne a178 a179 rfl)).trans a178
                  exact ih (kq - 1) (va_up grv kq (some (fg j3))) (va_up bfv j3 ((bfv j3) + 1)) _ _ _ _ (by omega) (by omega) (by omega) (z_shift hgrv (by omega) hj3) (fun k9 h9 h8 => (va_up_ne _ _ (by omega)).trans (hg1 k9 h9 (by omega))) (fun k9 h9 h8 => by by_cases q9 : k9 = kq; rw [q9, va_up_self]; exact hgj3.symm.trans (hg1 (kq - 1) (by omega) (by omega)); exact (va_up_ne _ _ q9).trans (hg2 k9 (by omega) h8)) (zRK_b hfi hgi (by omega) hkn hbv hj3 ((hg1 (kq - 1) (by omega) (by omega)).symm.trans hgj3)) a188 a187 a185 F184 (by
                        intro b e hb n0 n1
                        have hb3 : fL160 b = some e := k161 b e hb n0 n1
                        have hb4 : f174 b = some e := (k176 b n0).trans hb3
                        have hb5 : f180 b = some e := (k182 b (n1 j3 hj3)).trans hb4
                        exact hb5) hz hS (lv_sub hl [1, 2, 3, 0] rfl)
            have a189 : f147 ra = some (.inl (cy 3, 60, .inr (.inr (.inr (.inr gr))))) := k149 _ _ a6 
            have a190 : f154 ra = some (.inl (cy 3, 60, .inr (.inr (.inr (.inr gr))))) := (k156 _ (z_ne a189 a153 rfl)).trans a189
            have F191 : ∀ i9 : Nat, i9 < nn → f147 (fg i9) = some (.inr (4, [.int (kd i9), .ref (pt i9), .long (wg i9), .int (wd i9), .int (nI i9), .int (hs i9), .int (bf i9)])) := fun i9 h9 => k149 _ _ (F9 i9 h9) 
            have F192 : ∀ i9 : Nat, i9 < nn → f154 (fg i9) = some (.inr (4, [.int (kd i9), .ref (pt i9), .long (wg i9), .int (wd i9), .int (nI i9), .int (hs i9), .int (bf i9)])) := fun i9 h9 => (k156 _ (hq i9 h9)).trans (F191 i9 h9)
            exact lp159 (nn + 1) nn gr bf _ _ _ _ (Nat.lt_succ_self _) (by omega) (by omega) (fun k' h' => hgr k' (by omega)) (fun _ _ _ => rfl) (fun k9 h9 h8 => absurd h9 (by omega)) (fun j9 h9 k9 h8 _ => by rw [if_neg (by omega)]) a158 a155 a190 F192 (fun b e hb n0 n1 => hb) hz hS (lv_sub hl [2, 3, 4, 0] rfl)
          · replace c151 : ¬ (i ≤ 0) := fun h => c151 ((nI_leI (a := i) (b := 0) (by omega) (by omega)).mpr h)
            refine lv_aload_n hx hb dX5_rank_35 rfl (lv_at hl 0 rfl) ?_
            refine lv_aload_n hx hb dX5_rank_36 rfl (lv_at hl 0 rfl) ?_
            have a193 : f147 h = some (.inr (5, [.ref al, .ref ra, .int (nI nn)])) := k149 _ _ a4 
            refine z_get (v := .ref ra) C hz a193 zl5 mFX5_17 (by decide) rfl dX5_rank_37 ?_
            refine lv_iload_n hx hb dX5_rank_40 rfl (lv_at hl 2 rfl) ?_
            refine lv_iconst (v := 1) hx hb dX5_rank_41 (by decide) ?_
            refine lv_isub hx hb dX5_rank_42 ?_
            refine lv_topi (fun y194 e195 => ?_)
            obtain rfl : y194 = nI (i - 1) := e195.trans (pk_sub (a := i) (b := 1) (by omega))
            obtain ⟨j2, hj2, hgj2⟩ := hgr (i - 1) (by omega)
            have hcle : zCM nn bf (kd j2) (ln j2) (pp j2) (nI j2) kdq t gp nuq ≤ 0 := by
              rw [hfi _ hj2 _ hj (Option.some.inj (hgj2.symm.trans hgj))]
              exact c150
            have a196 : f147 ra = some (.inl (cy 3, 60, .inr (.inr (.inr (.inr gr))))) := k149 _ _ a6 
            refine z_aldq (i - 1) C hz a196 rfl rfl (by omega) (by omega) dX5_rank_43 ?_
            rw [hgj2]
            refine W.eq (g2 := F0 m 44 ls [.ref (fg j2), .ref h]) rfl ?_
            refine lv_aload_n hx hb dX5_rank_44 rfl (lv_at hl 1 rfl) ?_
            have a197 : f147 al = some (.inl (cy 3, 60, .inr (.inr (.inr (.inr ga))))) := k149 _ _ a5 
            have F198 : ∀ i9 : Nat, i9 < nn → f147 (fg i9) = some (.inr (4, [.int (kd i9), .ref (pt i9), .long (wg i9), .int (wd i9), .int (nI i9), .int (hs i9), .int (bf i9)])) := fun i9 h9 => k149 _ _ (F9 i9 h9) 
            have a199 : f147 (fg j2) = some (.inr (4, [.int (kd j2), .ref (pt j2), .long (wg j2), .int (wd j2), .int (nI j2), .int (hs j2), .int (bf j2)])) := F198 j2 hj2
            have a200 : f147 q = some (.inr (4, [.int kdq, .ref pa, .long wgq, .int wdq, .int nuq, .int hsq, .int bfq])) := k149 _ _ a7 
            have F201 : ∀ i9 : Nat, i9 < nn → f147 (pt i9) = some (.inl (cy 1, (ln i9), .inr (.inl (pp i9)))) := fun i9 h9 => k149 _ _ (F10 i9 h9) 
            have a202 : f147 (pt j2) = some (.inl (cy 1, (ln j2), .inr (.inl (pp j2)))) := F201 j2 hj2
            have a203 : f147 pa = some (.inl (cy 1, t, .inr (.inl gp))) := k149 _ _ a8 
            refine z_callVi (As := [.ref (fg j2), .ref q]) C hz hS hA hl (k_X5_compare l D cy f147 h al ra ga nn fg pt kd ln pp wg wd hs bf (fg j2) (kd j2) (pt j2) (wg j2) (wd j2) (nI j2) (hs j2) (bf j2) (ln j2) (pp j2) q kdq pa wgq wdq nuq hsq bfq t gp a193 a197 a199 a200 a202 a203 F198 (by omega) hga (by have h9 := hln j2 hj2; omega) (by omega) (hk5 j2 hj2) h5q) zyX5_compare mMX5_65 a193 zl5 rfl rfl (Nat.le_of_ble_eq_true rfl) ⟨Nat.le_of_ble_eq_true rfl, Nat.le_of_ble_eq_true rfl⟩ ⟨Nat.le_of_ble_eq_true rfl, Nat.le_of_ble_eq_true rfl⟩ dX5_rank_45 (fun r f204 H locs h205 hz hS => ?_)
            obtain ⟨rfl, k206⟩ := h205
            refine lv_if_ne (tgt := 55) hx hb dX5_rank_48 (by decide) (fun c207 => ?_) (fun c207 => ?_)
            · refine lv_iconst (v := 0) hx hb dX5_rank_55 (by decide) ?_
              refine lv_istore_n (lv' := [(3, .int 0), (0, .ref h), (1, .ref q), (2, .int (nI i))]) hx hb dX5_rank_56 rfl hl (by decide) rfl (fun ls hl => ?_)
              refine lv_aload_n hx hb dX5_rank_57 rfl (lv_at hl 2 rfl) ?_
              refine lv_iload_n hx hb dX5_rank_58 rfl (lv_at hl 0 rfl) ?_
              refine lv_if_eq (tgt := 76) hx hb dX5_rank_59 (by decide) (fun c208 => ?_) (fun c208 => ?_)
              rotate_left
              · exact absurd c208 (by decide)
              refine lv_iload_n hx hb dX5_rank_76 rfl (lv_at hl 3 rfl) ?_
              have a209 : f204 q = some (.inr (4, [.int kdq, .ref pa, .long wgq, .int wdq, .int nuq, .int hsq, .int bfq])) := k206 _ _ a200 
              refine z_putN (fs' := [.int kdq, .ref pa, .long wgq, .int wdq, .int nuq, .int hsq, .int (nI i)]) C hz hS a209 zl4 mFNX5_69 (by decide) rfl rfl rfl (Nat.le_of_ble_eq_true rfl) rfl dX5_rank_77 (fun H locs f210 a211 k212 hz hS => ?_)
              refine lv_aload_n hx hb dX5_rank_80 rfl (lv_at hl 1 rfl) ?_
              have a213 : f204 h = some (.inr (5, [.ref al, .ref ra, .int (nI nn)])) := k206 _ _ a193 
              have a214 : f210 h = some (.inr (5, [.ref al, .ref ra, .int (nI nn)])) := (k212 _ (z_ne a213 a209 rfl)).trans a213
              refine z_get (v := .int (nI nn)) C hz a214 zl5 mFX5_20 (by decide) rfl dX5_rank_81 ?_
              refine lv_istore (lv' := [(4, .int (nI nn)), (3, .int 0), (0, .ref h), (1, .ref q), (2, .int (nI i))]) hx hb dX5_rank_84 hl (by decide) rfl (fun ls hl => ?_)
              have lp215 : ∀ (n : Nat) (kq : Nat) (grv : Nat → Option Nat) (bfv : Nat → Int32) (fL216 : zM) (H : Heap) (locs : List Loc) (ls : Array Slot), (kq) < n → (i ≤ kq) → (kq ≤ nn) → (∀ k', (k' < nn ∨ (kq < k' ∧ k' ≤ nn)) → ∃ j, j < nn ∧ grv k' = some (fg j)) → (∀ k', k' < nn → k' ≤ kq → grv k' = gr k') → (∀ k', kq < k' → k' ≤ nn → grv k' = gr (k' - 1)) → (∀ j, j < nn → ∀ k, k < nn → gr k = some (fg j) → bfv j = if kq ≤ k then bf j + 1 else bf j) → fL216 h = some (.inr (5, [.ref al, .ref ra, .int (nI nn)])) → fL216 q = some (.inr (4, [.int kdq, .ref pa, .long wgq, .int wdq, .int nuq, .int hsq, .int (nI i)])) → fL216 ra = some (.inl (cy 3, 60, .inr (.inr (.inr (.inr grv))))) → (∀ i9 : Nat, i9 < nn → fL216 (fg i9) = some (.inr (4, [.int (kd i9), .ref (pt i9), .long (wg i9), .int (wd i9), .int (nI i9), .int (hs i9), .int (bfv i9)]))) → (∀ (b : Nat) (e : va_E), f210 b = some e → b ≠ ra → (∀ j9 : Nat, j9 < nn → b ≠ fg j9) → fL216 b = some e) → zH D (zA f s.heap.size) fL216 H → va_S (zA f s.heap.size) s.heap H locs → lv_has ls 5 [(0, .ref h), (1, .ref q), (2, .int (nI i)), (4, .int (nI kq))] → W p l e rmX5_rank s m ([.ref h, .ref q] : List Value).toArray below meth c H locs 0 0 (MQ below (va_Qv (fun (f1 : zM) => ∃ (bq : Int32) (gr1 : Nat → Option Nat) (bf1 : Nat → Int32), (∀ k, k < nn + 1 → gr1 k = some q ∨ ∃ j, j < nn ∧ gr1 k = some (fg j)) ∧ (zRI nn fg gr bf (fun j => zCM nn bf (kd j) (ln j) (pp j) (nI j) kdq t gp nuq) q gr1 bf1 bq) ∧ f1 q = some (.inr (4, [.int kdq, .ref pa, .long wgq, .int wdq, .int nuq, .int hsq, .int bq])) ∧ f1 ra = some (.inl (cy 3, 60, .inr (.inr (.inr (.inr gr1))))) ∧ (∀ i9 : Nat, i9 < nn → f1 (fg i9) = some (.inr (4, [.int (kd i9), .ref (pt i9), .long (wg i9), .int (wd i9), .int (nI i9), .int (hs i9), .int (bf1 i9)]))) ∧ (∀ (b : Nat) (e : va_E), f b = some e → b ≠ q → b ≠ ra → (∀ j9 : Nat, j9 < nn → b ≠ fg j9) → f1 b = some e)) (zB D f s.heap.size) (zA f s.heap.size)) ([.ref h, .ref q] : List Value).toArray s rmX5_rank.cells rmX5_rank.slots (zA f s.heap.size)) (F0 m 86 ls []) := by
                intro n
                induction n with
                | zero => intro kq grv bfv fL216 H locs ls hmz; exact absurd hmz (Nat.not_lt_zero _)
                | succ n ih =>
                  intro kq grv bfv fL216 H locs ls hmz hik hkn hgrv hg1 hg2 hbv a218 a219 a220 F221 k217 hz hS hl
                  refine lv_iload hx hb dX5_rank_86 (lv_at hl 3 rfl) ?_
                  refine lv_iload_n hx hb dX5_rank_88 rfl (lv_at hl 2 rfl) ?_
                  refine lv_icmp_le (tgt := 130) hx hb dX5_rank_89 (by decide) (fun c222 => ?_) (fun c222 => ?_)
                  · replace c222 : (kq ≤ i) := (nI_leI (a := kq) (b := i) (by omega) (by omega)).mp c222
                    refine lv_aload_n hx hb dX5_rank_130 rfl (lv_at hl 0 rfl) ?_
                    refine z_get (v := .ref ra) C hz a218 zl5 mFX5_17 (by decide) rfl dX5_rank_131 ?_
                    refine lv_iload_n hx hb dX5_rank_134 rfl (lv_at hl 2 rfl) ?_
                    refine lv_aload_n hx hb dX5_rank_135 rfl (lv_at hl 1 rfl) ?_
                    refine z_astq i C hz hS a220 rfl a219 zl4 rfl (by omega) (by omega) dX5_rank_136 (fun H locs f223 a224 k225 hz hS => ?_)
                    have a226 : f223 q = some (.inr (4, [.int kdq, .ref pa, .long wgq, .int wdq, .int nuq, .int hsq, .int (nI i)])) := (k225 _ (z_ne a219 a220 rfl)).trans a219
                    have F227 : ∀ i9 : Nat, i9 < nn → f223 (fg i9) = some (.inr (4, [.int (kd i9), .ref (pt i9), .long (wg i9), .int (wd i9), .int (nI i9), .int (hs i9), .int (bfv i9)])) := fun i9 h9 => (k225 _ (z_ne (F221 i9 h9) a220 rfl)).trans (F221 i9 h9)
                    exact z_vret C hr hz hS ⟨(nI i), (va_up grv i (some q)), bfv, (z_rk hgrv (by omega) (by omega) (by omega)), ⟨i, by omega, (fun k9 h9 => (va_up_ne _ _ (by omega)).trans (hg1 k9 (by omega) (by omega))), va_up_self _ _ _, (fun k9 h9 h8 => (va_up_ne _ _ (by omega)).trans (hg2 (k9 + 1) (by omega) (by omega))), (fun j9 h9 k9 h8 e9 => by rw [hbv j9 h9 k9 h8 e9, show kq = i by omega]), (fun k9 h9 h8 => hgt k9 h9 h8), (fun h9 => absurd h9 (by omega)), (fun _ j9 h9 e9 => by obtain rfl : j2 = j9 := hfi _ hj2 _ h9 (Option.some.inj (hgj2.symm.trans e9)); exact ⟨hcle, by rw [if_neg c207]⟩)⟩, a226, a224, F227, (by
                          intro b e hb n0 n1 n2
                          have hb0 : fL2 b = some e := k3 b e hb 
                          have hb1 : f147 b = some e := k149 b e hb0 
                          have hb2 : f204 b = some e := k206 b e hb1 
                          have hb3 : f210 b = some e := (k212 b n0).trans hb2
                          have hb4 : fL216 b = some e := k217 b e hb3 n1 n2
                          have hb5 : f223 b = some e := (k225 b n1).trans hb4
                          exact hb5)⟩ (Nat.le_of_ble_eq_true rfl) (Nat.le_of_ble_eq_true rfl) dX5_rank_137
                  · replace c222 : ¬ (kq ≤ i) := fun h => c222 ((nI_leI (a := kq) (b := i) (by omega) (by omega)).mpr h)
                    refine lv_aload_n hx hb dX5_rank_92 rfl (lv_at hl 0 rfl) ?_
                    refine z_get (v := .ref ra) C hz a218 zl5 mFX5_17 (by decide) rfl dX5_rank_93 ?_
                    refine lv_iload hx hb dX5_rank_96 (lv_at hl 3 rfl) ?_
                    refine lv_aload_n hx hb dX5_rank_98 rfl (lv_at hl 0 rfl) ?_
                    refine z_get (v := .ref ra) C hz a218 zl5 mFX5_17 (by decide) rfl dX5_rank_99 ?_
                    refine lv_iload hx hb dX5_rank_102 (lv_at hl 3 rfl) ?_
                    refine lv_iconst (v := 1) hx hb dX5_rank_104 (by decide) ?_
                    refine lv_isub hx hb dX5_rank_105 ?_
                    refine lv_topi (fun y228 e229 => ?_)
                    obtain rfl : y228 = nI (kq - 1) := e229.trans (pk_sub (a := kq) (b := 1) (by omega))
                    obtain ⟨j3, hj3, hgj3⟩ := hgrv (kq - 1) (Or.inl (by omega))
                    refine z_aldq (kq - 1) C hz a220 rfl rfl (by omega) (by omega) dX5_rank_106 ?_
                    rw [hgj3]
                    refine W.eq (g2 := F0 m 107 ls [.ref (fg j3), .int (nI kq), .ref ra]) rfl ?_
                    have a233 : fL216 (fg j3) = some (.inr (4, [.int (kd j3), .ref (pt j3), .long (wg j3), .int (wd j3), .int (nI j3), .int (hs j3), .int (bfv j3)])) := F221 j3 hj3
                    refine z_astq kq C hz hS a220 rfl a233 zl4 rfl (by omega) (by omega) dX5_rank_107 (fun H locs f230 a231 k232 hz hS => ?_)
                    refine lv_aload_n hx hb dX5_rank_108 rfl (lv_at hl 0 rfl) ?_
                    have a234 : f230 h = some (.inr (5, [.ref al, .ref ra, .int (nI nn)])) := (k232 _ (z_ne a218 a220 rfl)).trans a218
                    refine z_get (v := .ref ra) C hz a234 zl5 mFX5_17 (by decide) rfl dX5_rank_109 ?_
                    refine lv_iload hx hb dX5_rank_112 (lv_at hl 3 rfl) ?_
                    refine z_aldq kq C hz a231 rfl rfl (by omega) (by omega) dX5_rank_114 ?_
                    rw [va_up_self]
                    refine W.eq (g2 := F0 m 115 ls [.ref (fg j3)]) rfl ?_
                    refine lv_dup hx hb dX5_rank_115 rfl ?_
                    have a235 : f230 (fg j3) = some (.inr (4, [.int (kd j3), .ref (pt j3), .long (wg j3), .int (wd j3), .int (nI j3), .int (hs j3), .int (bfv j3)])) := (k232 _ (z_ne a233 a220 rfl)).trans a233
                    refine z_getN (v := .int (bfv j3)) C hz a235 zl4 mFNX5_69 (by decide) rfl dX5_rank_116 ?_
                    refine lv_iconst (v := 1) hx hb dX5_rank_119 (by decide) ?_
                    refine lv_iadd hx hb dX5_rank_120 ?_
                    refine z_putN (fs' := [.int (kd j3), .ref (pt j3), .long (wg j3), .int (wd j3), .int (nI j3), .int (hs j3), .int ((bfv j3) + 1)]) C hz hS a235 zl4 mFNX5_69 (by decide) rfl rfl rfl (Nat.le_of_ble_eq_true rfl) rfl dX5_rank_121 (fun H locs f236 a237 k238 hz hS => ?_)
                    have F239 : ∀ i9 : Nat, i9 < nn → f230 (fg i9) = some (.inr (4, [.int (kd i9), .ref (pt i9), .long (wg i9), .int (wd i9), .int (nI i9), .int (hs i9), .int (bfv i9)])) := fun i9 h9 => (k232 _ (z_ne (F221 i9 h9) a220 rfl)).trans (F221 i9 h9)
                    have F240 : ∀ i9 : Nat, i9 < nn → f236 (fg i9) = some (.inr (4, [.int (kd i9), .ref (pt i9), .long (wg i9), .int (wd i9), .int (nI i9), .int (hs i9), .int (va_up bfv j3 ((bfv j3) + 1) i9)])) := z_famW (T := fun i9 => .inr (4, [.int (kd i9), .ref (pt i9), .long (wg i9), .int (wd i9), .int (nI i9), .int (hs i9), .int (bfv i9)])) (T' := fun i9 => .inr (4, [.int (kd i9), .ref (pt i9), .long (wg i9), .int (wd i9), .int (nI i9), .int (hs i9), .int (va_up bfv j3 ((bfv j3) + 1) i9)])) F239 hj3 (by simp only [va_up_self]; exact a237) k238 (fun i9 h9 => by simp only [va_up_ne _ _ h9]) (fun i9 h9 => hfi i9 h9 j3 hj3)
                    refine lv_iinc (v := nI (kq - 1)) (lv' := [(4, .int (nI (kq - 1))), (0, .ref h), (1, .ref q), (2, .int (nI i))]) hx hb dX5_rank_124 hl (k := 3) rfl (z_dec (by omega)) (by decide) rfl (fun ls hl => ?_)
                    refine lv_goto (tgt := 86) hx hb dX5_rank_127 (by decide) ?_
                    have a241 : f236 ra = some (.inl (cy 3, 60, .inr (.inr (.inr (.inr (va_up grv kq (some (fg j3)))))))) := (k238 _ (z_ne a231 a235 rfl)).trans a231
                    have a242 : f230 q = some (.inr (4, [.int kdq, .ref pa, .long wgq, .int wdq, .int nuq, .int hsq, .int (nI i)])) := (k232 _ (z_ne a219 a220 rfl)).trans a219
                    have a243 : f236 q = some (.inr (4, [.int kdq, .ref pa, .long wgq, .int wdq, .int nuq, .int hsq, .int (nI i)])) := (k238 _ ((fun j9 h8 => Ne.symm (hq j9 h8)) j3 hj3)).trans a242
                    have a244 : f236 h = some (.inr (5, [.ref al, .ref ra, .int (nI nn)])) := (k238 _ (z_ne a234 a235 rfl)).trans a234
                    exact ih (kq - 1) (va_up grv kq (some (fg j3))) (va_up bfv j3 ((bfv j3) + 1)) _ _ _ _ (by omega) (by omega) (by omega) (z_shift hgrv (by omega) hj3) (fun k9 h9 h8 => (va_up_ne _ _ (by omega)).trans (hg1 k9 h9 (by omega))) (fun k9 h9 h8 => by by_cases q9 : k9 = kq; rw [q9, va_up_self]; exact hgj3.symm.trans (hg1 (kq - 1) (by omega) (by omega)); exact (va_up_ne _ _ q9).trans (hg2 k9 (by omega) h8)) (zRK_b hfi hgi (by omega) hkn hbv hj3 ((hg1 (kq - 1) (by omega) (by omega)).symm.trans hgj3)) a244 a243 a241 F240 (by
                          intro b e hb n0 n1
                          have hb4 : fL216 b = some e := k217 b e hb n0 n1
                          have hb5 : f230 b = some e := (k232 b n0).trans hb4
                          have hb6 : f236 b = some e := (k238 b (n1 j3 hj3)).trans hb5
                          exact hb6) hz hS (lv_sub hl [1, 2, 3, 0] rfl)
              have a245 : f204 ra = some (.inl (cy 3, 60, .inr (.inr (.inr (.inr gr))))) := k206 _ _ a196 
              have a246 : f210 ra = some (.inl (cy 3, 60, .inr (.inr (.inr (.inr gr))))) := (k212 _ (z_ne a245 a209 rfl)).trans a245
              have F247 : ∀ i9 : Nat, i9 < nn → f204 (fg i9) = some (.inr (4, [.int (kd i9), .ref (pt i9), .long (wg i9), .int (wd i9), .int (nI i9), .int (hs i9), .int (bf i9)])) := fun i9 h9 => k206 _ _ (F198 i9 h9) 
              have F248 : ∀ i9 : Nat, i9 < nn → f210 (fg i9) = some (.inr (4, [.int (kd i9), .ref (pt i9), .long (wg i9), .int (wd i9), .int (nI i9), .int (hs i9), .int (bf i9)])) := fun i9 h9 => (k212 _ (hq i9 h9)).trans (F247 i9 h9)
              exact lp215 (nn + 1) nn gr bf _ _ _ _ (Nat.lt_succ_self _) (by omega) (by omega) (fun k' h' => hgr k' (by omega)) (fun _ _ _ => rfl) (fun k9 h9 h8 => absurd h9 (by omega)) (fun j9 h9 k9 h8 _ => by rw [if_neg (by omega)]) a214 a211 a246 F248 (fun b e hb n0 n1 => hb) hz hS (lv_sub hl [2, 3, 4, 0] rfl)
            · refine lv_iconst (v := 1) hx hb dX5_rank_51 (by decide) ?_
              refine lv_goto (tgt := 56) hx hb dX5_rank_52 (by decide) ?_
              refine lv_istore_n (lv' := [(3, .int 1), (0, .ref h), (1, .ref q), (2, .int (nI i))]) hx hb dX5_rank_56 rfl hl (by decide) rfl (fun ls hl => ?_)
              refine lv_aload_n hx hb dX5_rank_57 rfl (lv_at hl 2 rfl) ?_
              refine lv_iload_n hx hb dX5_rank_58 rfl (lv_at hl 0 rfl) ?_
              refine lv_if_eq (tgt := 76) hx hb dX5_rank_59 (by decide) (fun c249 => ?_) (fun c249 => ?_)
              · exact absurd c249 (by decide)
              refine lv_aload_n hx hb dX5_rank_62 rfl (lv_at hl 1 rfl) ?_
              have a250 : f204 h = some (.inr (5, [.ref al, .ref ra, .int (nI nn)])) := k206 _ _ a193 
              refine z_get (v := .ref ra) C hz a250 zl5 mFX5_17 (by decide) rfl dX5_rank_63 ?_
              refine lv_iload_n hx hb dX5_rank_66 rfl (lv_at hl 3 rfl) ?_
              refine lv_iconst (v := 1) hx hb dX5_rank_67 (by decide) ?_
              refine lv_isub hx hb dX5_rank_68 ?_
              refine lv_topi (fun y251 e252 => ?_)
              obtain rfl : y251 = nI (i - 1) := e252.trans (pk_sub (a := i) (b := 1) (by omega))
              have a253 : f204 ra = some (.inl (cy 3, 60, .inr (.inr (.inr (.inr gr))))) := k206 _ _ a196 
              refine z_aldq (i - 1) C hz a253 rfl rfl (by omega) (by omega) dX5_rank_69 ?_
              rw [hgj2]
              refine W.eq (g2 := F0 m 70 ls [.ref (fg j2), .ref q]) rfl ?_
              have a254 : f204 (fg j2) = some (.inr (4, [.int (kd j2), .ref (pt j2), .long (wg j2), .int (wd j2), .int (nI j2), .int (hs j2), .int (bf j2)])) := k206 _ _ a199 
              refine z_getN (v := .int (bf j2)) C hz a254 zl4 mFNX5_69 (by decide) rfl dX5_rank_70 ?_
              refine lv_goto (tgt := 77) hx hb dX5_rank_73 (by decide) ?_
              have a255 : f204 q = some (.inr (4, [.int kdq, .ref pa, .long wgq, .int wdq, .int nuq, .int hsq, .int bfq])) := k206 _ _ a200 
              refine z_putN (fs' := [.int kdq, .ref pa, .long wgq, .int wdq, .int nuq, .int hsq, .int (bf j2)]) C hz hS a255 zl4 mFNX5_69 (by decide) rfl rfl rfl (Nat.le_of_ble_eq_true rfl) rfl dX5_rank_77 (fun H locs f256 a257 k258 hz hS => ?_)
              refine lv_aload_n hx hb dX5_rank_80 rfl (lv_at hl 1 rfl) ?_
              have a259 : f256 h = some (.inr (5, [.ref al, .ref ra, .int (nI nn)])) := (k258 _ (z_ne a250 a255 rfl)).trans a250
              refine z_get (v := .int (nI nn)) C hz a259 zl5 mFX5_20 (by decide) rfl dX5_rank_81 ?_
              refine lv_istore (lv' := [(4, .int (nI nn)), (3, .int 1), (0, .ref h), (1, .ref q), (2, .int (nI i))]) hx hb dX5_rank_84 hl (by decide) rfl (fun ls hl => ?_)
              have lp260 : ∀ (n : Nat) (kq : Nat) (grv : Nat → Option Nat) (bfv : Nat → Int32) (fL261 : zM) (H : Heap) (locs : List Loc) (ls : Array Slot), (kq) < n → (i ≤ kq) → (kq ≤ nn) → (∀ k', (k' < nn ∨ (kq < k' ∧ k' ≤ nn)) → ∃ j, j < nn ∧ grv k' = some (fg j)) → (∀ k', k' < nn → k' ≤ kq → grv k' = gr k') → (∀ k', kq < k' → k' ≤ nn → grv k' = gr (k' - 1)) → (∀ j, j < nn → ∀ k, k < nn → gr k = some (fg j) → bfv j = if kq ≤ k then bf j + 1 else bf j) → fL261 h = some (.inr (5, [.ref al, .ref ra, .int (nI nn)])) → fL261 q = some (.inr (4, [.int kdq, .ref pa, .long wgq, .int wdq, .int nuq, .int hsq, .int (bf j2)])) → fL261 ra = some (.inl (cy 3, 60, .inr (.inr (.inr (.inr grv))))) → (∀ i9 : Nat, i9 < nn → fL261 (fg i9) = some (.inr (4, [.int (kd i9), .ref (pt i9), .long (wg i9), .int (wd i9), .int (nI i9), .int (hs i9), .int (bfv i9)]))) → (∀ (b : Nat) (e : va_E), f256 b = some e → b ≠ ra → (∀ j9 : Nat, j9 < nn → b ≠ fg j9) → fL261 b = some e) → zH D (zA f s.heap.size) fL261 H → va_S (zA f s.heap.size) s.heap H locs → lv_has ls 5 [(0, .ref h), (1, .ref q), (2, .int (nI i)), (4, .int (nI kq))] → W p l e rmX5_rank s m ([.ref h, .ref q] : List Value).toArray below meth c H locs 0 0 (MQ below (va_Qv (fun (f1 : zM) => ∃ (bq : Int32) (gr1 : Nat → Option Nat) (bf1 : Nat → Int32), (∀ k, k < nn + 1 → gr1 k = some q ∨ ∃ j, j < nn ∧ gr1 k = some (fg j)) ∧ (zRI nn fg gr bf (fun j => zCM nn bf (kd j) (ln j) (pp j) (nI j) kdq t gp nuq) q gr1 bf1 bq) ∧ f1 q = some (.inr (4, [.int kdq, .ref pa, .long wgq, .int wdq, .int nuq, .int hsq, .int bq])) ∧ f1 ra = some (.inl (cy 3, 60, .inr (.inr (.inr (.inr gr1))))) ∧ (∀ i9 : Nat, i9 < nn → f1 (fg i9) = some (.inr (4, [.int (kd i9), .ref (pt i9), .long (wg i9), .int (wd i9), .int (nI i9), .int (hs i9), .int (bf1 i9)]))) ∧ (∀ (b : Nat) (e : va_E), f b = some e → b ≠ q → b ≠ ra → (∀ j9 : Nat, j9 < nn → b ≠ fg j9) → f1 b = some e)) (zB D f s.heap.size) (zA f s.heap.size)) ([.ref h, .ref q] : List Value).toArray s rmX5_rank.cells rmX5_rank.slots (zA f s.heap.size)) (F0 m 86 ls []) := by
                intro n
                induction n with
                | zero => intro kq grv bfv fL261 H locs ls hmz; exact absurd hmz (Nat.not_lt_zero _)
                | succ n ih =>
                  intro kq grv bfv fL261 H locs ls hmz hik hkn hgrv hg1 hg2 hbv a263 a264 a265 F266 k262 hz hS hl
                  refine lv_iload hx hb dX5_rank_86 (lv_at hl 3 rfl) ?_
                  refine lv_iload_n hx hb dX5_rank_88 rfl (lv_at hl 2 rfl) ?_
                  refine lv_icmp_le (tgt := 130) hx hb dX5_rank_89 (by decide) (fun c267 => ?_) (fun c267 => ?_)
                  · replace c267 : (kq ≤ i) := (nI_leI (a := kq) (b := i) (by omega) (by omega)).mp c267
                    refine lv_aload_n hx hb dX5_rank_130 rfl (lv_at hl 0 rfl) ?_
                    refine z_get (v := .ref ra) C hz a263 zl5 mFX5_17 (by decide) rfl dX5_rank_131 ?_
                    refine lv_iload_n hx hb dX5_rank_134 rfl (lv_at hl 2 rfl) ?_
                    refine lv_aload_n hx hb dX5_rank_135 rfl (lv_at hl 1 rfl) ?_
                    refine z_astq i C hz hS a265 rfl a264 zl4 rfl (by omega) (by omega) dX5_rank_136 (fun H locs f268 a269 k270 hz hS => ?_)
                    have a271 : f268 q = some (.inr (4, [.int kdq, .ref pa, .long wgq, .int wdq, .int nuq, .int hsq, .int (bf j2)])) := (k270 _ (z_ne a264 a265 rfl)).trans a264
                    have F272 : ∀ i9 : Nat, i9 < nn → f268 (fg i9) = some (.inr (4, [.int (kd i9), .ref (pt i9), .long (wg i9), .int (wd i9), .int (nI i9), .int (hs i9), .int (bfv i9)])) := fun i9 h9 => (k270 _ (z_ne (F266 i9 h9) a265 rfl)).trans (F266 i9 h9)
                    exact z_vret C hr hz hS ⟨(bf j2), (va_up grv i (some q)), bfv, (z_rk hgrv (by omega) (by omega) (by omega)), ⟨i, by omega, (fun k9 h9 => (va_up_ne _ _ (by omega)).trans (hg1 k9 (by omega) (by omega))), va_up_self _ _ _, (fun k9 h9 h8 => (va_up_ne _ _ (by omega)).trans (hg2 (k9 + 1) (by omega) (by omega))), (fun j9 h9 k9 h8 e9 => by rw [hbv j9 h9 k9 h8 e9, show kq = i by omega]), (fun k9 h9 h8 => hgt k9 h9 h8), (fun h9 => absurd h9 (by omega)), (fun _ j9 h9 e9 => by obtain rfl : j2 = j9 := hfi _ hj2 _ h9 (Option.some.inj (hgj2.symm.trans e9)); exact ⟨hcle, by rw [if_pos c207]⟩)⟩, a271, a269, F272, (by
                          intro b e hb n0 n1 n2
                          have hb0 : fL2 b = some e := k3 b e hb 
                          have hb1 : f147 b = some e := k149 b e hb0 
                          have hb2 : f204 b = some e := k206 b e hb1 
                          have hb3 : f256 b = some e := (k258 b n0).trans hb2
                          have hb4 : fL261 b = some e := k262 b e hb3 n1 n2
                          have hb5 : f268 b = some e := (k270 b n1).trans hb4
                          exact hb5)⟩ (Nat.le_of_ble_eq_true rfl) (Nat.le_of_ble_eq_true rfl) dX5_rank_137
                  · replace c267 : ¬ (kq ≤ i) := fun h => c267 ((nI_leI (a := kq) (b := i) (by omega) (by omega)).mpr h)
                    refine lv_aload_n hx hb dX5_rank_92 rfl (lv_at hl 0 rfl) ?_
                    refine z_get (v := .ref ra) C hz a263 zl5 mFX5_17 (by decide) rfl dX5_rank_93 ?_
                    refine lv_iload hx hb dX5_rank_96 (lv_at hl 3 rfl) ?_
                    refine lv_aload_n hx hb dX5_rank_98 rfl (lv_at hl 0 rfl) ?_
                    refine z_get (v := .ref ra) C hz a263 zl5 mFX5_17 (by decide) rfl dX5_rank_99 ?_
                    refine lv_iload hx hb dX5_rank_102 (lv_at hl 3 rfl) ?_
                    refine lv_iconst (v := 1) hx hb dX5_rank_104 (by decide) ?_
                    refine lv_isub hx hb dX5_rank_105 ?_
                    refine lv_topi (fun y273 e274 => ?_)
                    obtain rfl : y273 = nI (kq - 1) := e274.trans (pk_sub (a := kq) (b := 1) (by omega))
                    obtain ⟨j3, hj3, hgj3⟩ := hgrv (kq - 1) (Or.inl (by omega))
                    refine z_aldq (kq - 1) C hz a265 rfl rfl (by omega) (by omega) dX5_rank_106 ?_
                    rw [hgj3]
                    refine W.eq (g2 := F0 m 107 ls [.ref (fg j3), .int (nI kq), .ref ra]) rfl ?_
                    have a278 : fL261 (fg j3) = some (.inr (4, [.int (kd j3), .ref (pt j3), .long (wg j3), .int (wd j3), .int (nI j3), .int (hs j3), .int (bfv j3)])) := F266 j3 hj3
                    refine z_astq kq C hz hS a265 rfl a278 zl4 rfl (by omega) (by omega) dX5_rank_107 (fun H locs f275 a276 k277 hz hS => ?_)
                    refine lv_aload_n hx hb dX5_rank_108 rfl (lv_at hl 0 rfl) ?_
                    have a279 : f275 h = some (.inr (5, [.ref al, .ref ra, .int (nI nn)])) := (k277 _ (z_ne a263 a265 rfl)).trans a263
                    refine z_get (v := .ref ra) C hz a279 zl5 mFX5_17 (by decide) rfl dX5_rank_109 ?_
                    refine lv_iload hx hb dX5_rank_112 (lv_at hl 3 rfl) ?_
                    refine z_aldq kq C hz a276 rfl rfl (by omega) (by omega) dX5_rank_114 ?_
                    rw [va_up_self]
                    refine W.eq (g2 := F0 m 115 ls [.ref (fg j3)]) rfl ?_
                    refine lv_dup hx hb dX5_rank_115 rfl ?_
                    have a280 : f275 (fg j3) = some (.inr (4, [.int (kd j3), .ref (pt j3), .long (wg j3), .int (wd j3), .int (nI j3), .int (hs j3), .int (bfv j3)])) := (k277 _ (z_ne a278 a265 rfl)).trans a278
                    refine z_getN (v := .int (bfv j3)) C hz a280 zl4 mFNX5_69 (by decide) rfl dX5_rank_116 ?_
                    refine lv_iconst (v := 1) hx hb dX5_rank_119 (by decide) ?_
                    refine lv_iadd hx hb dX5_rank_120 ?_
                    refine z_putN (fs' := [.int (kd j3), .ref (pt j3), .long (wg j3), .int (wd j3), .int (nI j3), .int (hs j3), .int ((bfv j3) + 1)]) C hz hS a280 zl4 mFNX5_69 (by decide) rfl rfl rfl (Nat.le_of_ble_eq_true rfl) rfl dX5_rank_121 (fun H locs f281 a282 k283 hz hS => ?_)
                    have F284 : ∀ i9 : Nat, i9 < nn → f275 (fg i9) = some (.inr (4, [.int (kd i9), .ref (pt i9), .long (wg i9), .int (wd i9), .int (nI i9), .int (hs i9), .int (bfv i9)])) := fun i9 h9 => (k277 _ (z_ne (F266 i9 h9) a265 rfl)).trans (F266 i9 h9)
                    have F285 : ∀ i9 : Nat, i9 < nn → f281 (fg i9) = some (.inr (4, [.int (kd i9), .ref (pt i9), .long (wg i9), .int (wd i9), .int (nI i9), .int (hs i9), .int (va_up bfv j3 ((bfv j3) + 1) i9)])) := z_famW (T := fun i9 => .inr (4, [.int (kd i9), .ref (pt i9), .long (wg i9), .int (wd i9), .int (nI i9), .int (hs i9), .int (bfv i9)])) (T' := fun i9 => .inr (4, [.int (kd i9), .ref (pt i9), .long (wg i9), .int (wd i9), .int (nI i9), .int (hs i9), .int (va_up bfv j3 ((bfv j3) + 1) i9)])) F284 hj3 (by simp only [va_up_self]; exact a282) k283 (fun i9 h9 => by simp only [va_up_ne _ _ h9]) (fun i9 h9 => hfi i9 h9 j3 hj3)
                    refine lv_iinc (v := nI (kq - 1)) (lv' := [(4, .int (nI (kq - 1))), (0, .ref h), (1, .ref q), (2, .int (nI i))]) hx hb dX5_rank_124 hl (k := 3) rfl (z_dec (by omega)) (by decide) rfl (fun ls hl => ?_)
                    refine lv_goto (tgt := 86) hx hb dX5_rank_127 (by decide) ?_
                    have a286 : f281 ra = some (.inl (cy 3, 60, .inr (.inr (.inr (.inr (va_up grv kq (some (fg j3)))))))) := (k283 _ (z_ne a276 a280 rfl)).trans a276
                    have a287 : f275 q = some (.inr (4, [.int kdq, .ref pa, .long wgq, .int wdq, .int nuq, .int hsq, .int (bf j2)])) := (k277 _ (z_ne a264 a265 rfl)).trans a264
                    have a288 : f281 q = some (.inr (4, [.int kdq, .ref pa, .long wgq, .int wdq, .int nuq, .int hsq, .int (bf j2)])) := (k283 _ ((fun j9 h8 => Ne.symm (hq j9 h8)) j3 hj3)).trans a287
                    have a289 : f281 h = some (.inr (5, [.ref al, .ref ra, .int (nI nn)])) := (k283 _ (z_ne a279 a280 rfl)).trans a279
                    exact ih (kq - 1) (va_up grv kq (some (fg j3))) (va_up bfv j3 ((bfv j3) + 1)) _ _ _ _ (by omega) (by omega) (by omega) (z_shift hgrv (by omega) hj3) (fun k9 h9 h8 => (va_up_ne _ _ (by omega)).trans (hg1 k9 h9 (by omega))) (fun k9 h9 h8 => by by_cases q9 : k9 = kq; rw [q9, va_up_self]; exact hgj3.symm.trans (hg1 (kq - 1) (by omega) (by omega)); exact (va_up_ne _ _ q9).trans (hg2 k9 (by omega) h8)) (zRK_b hfi hgi (by omega) hkn hbv hj3 ((hg1 (kq - 1) (by omega) (by omega)).symm.trans hgj3)) a289 a288 a286 F285 (by
                          intro b e hb n0 n1
                          have hb4 : fL261 b = some e := k262 b e hb n0 n1
                          have hb5 : f275 b = some e := (k277 b n0).trans hb4
                          have hb6 : f281 b = some e := (k283 b (n1 j3 hj3)).trans hb5
                          exact hb6) hz hS (lv_sub hl [1, 2, 3, 0] rfl)
              have a290 : f256 ra = some (.inl (cy 3, 60, .inr (.inr (.inr (.inr gr))))) := (k258 _ (z_ne a253 a255 rfl)).trans a253
              have F291 : ∀ i9 : Nat, i9 < nn → f204 (fg i9) = some (.inr (4, [.int (kd i9), .ref (pt i9), .long (wg i9), .int (wd i9), .int (nI i9), .int (hs i9), .int (bf i9)])) := fun i9 h9 => k206 _ _ (F198 i9 h9) 
              have F292 : ∀ i9 : Nat, i9 < nn → f256 (fg i9) = some (.inr (4, [.int (kd i9), .ref (pt i9), .long (wg i9), .int (wd i9), .int (nI i9), .int (hs i9), .int (bf i9)])) := fun i9 h9 => (k258 _ (hq i9 h9)).trans (F291 i9 h9)
              exact lp260 (nn + 1) nn gr bf _ _ _ _ (Nat.lt_succ_self _) (by omega) (by omega) (fun k' h' => hgr k' (by omega)) (fun _ _ _ => rfl) (fun k9 h9 h8 => absurd h9 (by omega)) (fun j9 h9 k9 h8 _ => by rw [if_neg (by omega)]) a259 a257 a290 F292 (fun b e hb n0 n1 => hb) hz hS (lv_sub hl [2, 3, 4, 0] rfl)
        · refine lv_iinc (v := nI (i - 1)) (lv' := [(2, .int (nI (i - 1))), (0, .ref h), (1, .ref q)]) hx hb dX5_rank_25 hl (k := 2) rfl (z_dec (by omega)) (by decide) rfl (fun ls hl => ?_)
          refine lv_goto (tgt := 5) hx hb dX5_rank_28 (by decide) ?_
          have a293 : f147 h = some (.inr (5, [.ref al, .ref ra, .int (nI nn)])) := k149 _ _ a4 
          have a294 : f147 al = some (.inl (cy 3, 60, .inr (.inr (.inr (.inr ga))))) := k149 _ _ a5 
          have a295 : f147 ra = some (.inl (cy 3, 60, .inr (.inr (.inr (.inr gr))))) := k149 _ _ a6 
          have a296 : f147 q = some (.inr (4, [.int kdq, .ref pa, .long wgq, .int wdq, .int nuq, .int hsq, .int bfq])) := k149 _ _ a7 
          have a297 : f147 pa = some (.inl (cy 1, t, .inr (.inl gp))) := k149 _ _ a8 
          have F298 : ∀ i9 : Nat, i9 < nn → f147 (fg i9) = some (.inr (4, [.int (kd i9), .ref (pt i9), .long (wg i9), .int (wd i9), .int (nI i9), .int (hs i9), .int (bf i9)])) := fun i9 h9 => k149 _ _ (F9 i9 h9) 
          have F299 : ∀ i9 : Nat, i9 < nn → f147 (pt i9) = some (.inl (cy 1, (ln i9), .inr (.inl (pp i9)))) := fun i9 h9 => k149 _ _ (F10 i9 h9) 
          exact ih (i - 1) _ _ _ _ (by omega) (by omega) (zRK_gt hfi hgt hj hgj (Int32.not_le.mp c150)) a293 a294 a295 a296 a297 F298 F299 (by
                intro b e hb 
                have hb0 : fL2 b = some e := k3 b e hb 
                have hb1 : f147 b = some e := k149 b e hb0 
                exact hb1) hz hS (lv_sub hl [1, 2, 0] rfl)
  exact lp1 (nn + 1) nn _ _ _ _ (Nat.lt_succ_self _) (by omega) (fun k9 h9 h8 => absurd h8 (by omega)) p0 p1 p2 p3 p4 hF hP (fun b e hb => hb) hz hS (lv_sub hl [1, 2, 0] rfl)
theorem z_ga1 {ga : Nat → Option Nat} {fg : Nat → Nat} {n q : Nat} (h : ∀ i, i < n → ga i = some (fg i)) : ∀ i, i < n + 1 → va_up ga n (some q) i = some (va_up fg n q i) := by
  intro i hi
  by_cases e : i = n
  · subst e
    rw [va_up_self, va_up_self]
  · rw [va_up_ne _ _ e, va_up_ne _ _ e]
    exact h i (by omega)
theorem z_gr1 {gr : Nat → Option Nat} {fg : Nat → Nat} {n q : Nat} (h : ∀ k, k < n + 1 → gr k = some q ∨ ∃ j, j < n ∧ gr k = some (fg j)) : ∀ k, k < n + 1 → ∃ j, j < n + 1 ∧ gr k = some (va_up fg n q j) := by
  intro k hk
  rcases h k hk with e | ⟨j, hj, e⟩
  · exact ⟨n, by omega, by rw [e, va_up_self]⟩
  · exact ⟨j, by omega, by rw [e, va_up_ne _ _ (by omega)]⟩
theorem z_up1 {α : Type} {P : Nat → α → Prop} {g : Nat → α} {n : Nat} {x : α} (h : ∀ i, i < n → P i (g i)) (hx : P n x) : ∀ i, i < n + 1 → P i (va_up g n x i) := by
  intro i hi
  by_cases e : i = n
  · subst e
    rw [va_up_self]
    exact hx
  · rw [va_up_ne _ _ e]
    exact h i (by omega)
theorem z_up2 {α β : Type} {P : α → β → Prop} {g : Nat → α} {k : Nat → β} {n : Nat} {x : α} {y : β} (h : ∀ i, i < n → P (g i) (k i)) (hx : P x y) : ∀ i, i < n + 1 → P (va_up g n x i) (va_up k n y i) := by
  intro i hi
  by_cases e : i = n
  · subst e
    rw [va_up_self, va_up_self]
    exact hx
  · rw [va_up_ne _ _ e, va_up_ne _ _ e]
    exact h i (by omega)
theorem z_inj1 {fg : Nat → Nat} {n q : Nat} (h : ∀ i, i < n → ∀ j, j < n → fg i = fg j → i = j) (hq : ∀ j, j < n → fg j ≠ q) : ∀ i, i < n + 1 → ∀ j, j < n + 1 → va_up fg n q i = va_up fg n q j → i = j := by
  intro i hi j hj e
  by_cases a : i = n
  · by_cases b : j = n
    · omega
    · subst a
      rw [va_up_self, va_up_ne _ _ b] at e
      exact absurd e.symm (hq j (by omega))
  · by_cases b : j = n
    · subst b
      rw [va_up_self, va_up_ne _ _ a] at e
      exact absurd e (hq i (by omega))
    · rw [va_up_ne _ _ a, va_up_ne _ _ b] at e
      exact h i (by omega) j (by omega) e
theorem z_famC {f f1 : zM} {n : Nat} {ad : Nat → Nat} {T T' : Nat → va_E} {j : Nat} (hj : j < n) (hw : f1 (ad j) = some (T' j)) (hk : ∀ i, i < n → ad i ≠ ad j → f1 (ad i) = some (T i)) (hT : ∀ i, i ≠ j → T' i = T i) (inj : ∀ i, i < n → ad i = ad j → i = j) : ∀ i, i < n → f1 (ad i) = some (T' i) := by
  intro i hi
  by_cases hij : i = j
  · subst hij
    exact hw
  · rw [hT i hij]
    exact hk i hi (fun q => hij (inj i hi q))
theorem z_hon (x : Int32) (n : Nat) : x = (-1) ∨ (∃ j, j < n ∧ x = nI j) ∨ (¬ x = (-1) ∧ ∀ j, j < n → x ≠ nI j) := by
  by_cases h : x = (-1)
  · exact Or.inl h
  · rcases z_findi x n with h2 | h2
    · exact Or.inr (Or.inl h2)
    · exact Or.inr (Or.inr ⟨h, h2⟩)
theorem z_ixl {x : Int32} {n : Nat} (h1 : ¬ x < 0) (h2 : ¬ nI n ≤ x) (hn : n < 2 ^ 31) : ∃ j, j < n ∧ x = nI j := by
  rcases pk_ix x (n := n) hn with h9 | h9 | h9
  · exact absurd h9 h1
  · exact absurd h9 h2
  · exact h9
theorem z_place {x : Int32} {t : Nat} (ht : t < 2 ^ 31) (h : ¬ (if x < 0 then (0 : Int32) else if nI t - 1 ≤ x then 0 else 1) = 0) : ∃ j, x = nI j ∧ j + 1 < t := by
  by_cases h0 : x < 0
  · exact absurd (by rw [if_pos h0]) h
  · by_cases h1 : nI t - 1 ≤ x
    · exact absurd (by rw [if_neg h0, if_pos h1]) h
    · have ht0 : t ≠ 0 := by
        rintro rfl
        apply h1
        rw [Int32.le_iff_toInt_le]
        rw [Int32.lt_iff_toInt_lt] at h0
        have e0 : (0 : Int32).toInt = 0 := by decide
        have e1 : (nI 0 - 1).toInt = -1 := by decide
        rw [e0] at h0
        rw [e1]
        omega
      have e : nI t - 1 = nI (t - 1) := pk_sub (a := t) (b := 1) (by omega)
      rw [e] at h1
      obtain ⟨j, hj, hx⟩ := z_ixl h0 h1 (by omega)
      exact ⟨j, hx, by omega⟩
theorem z_sq1 {sq : Nat → Nat} {n j : Nat} (h : ∀ i, i < 4 → sq i ≤ n) (hj : j < 4) : ∀ i, i < 4 → va_up sq j (sq j + 1) i ≤ n + 1 := by
  intro i hi
  by_cases e : i = j
  · subst e
    rw [va_up_self]
    have := h i hi
    omega
  · rw [va_up_ne _ _ e]
    have := h i hi
    omega
theorem z_sq2 {sq : Nat → Nat} {n j : Nat} (h : ∀ i, i < 4 → sq i ≤ n) (hj : j < 4) : ∀ i, i < 4 → va_up sq j (sq j - 1) i ≤ n := by
  intro i hi
  by_cases e : i = j
  · subst e
    rw [va_up_self]
    have := h i hi
    omega
  · rw [va_up_ne _ _ e]
    exact h i hi
abbrev rmX5_add : Room := { frames := 5, cells := 0, slots := 0, locals := 119 }
set_option maxHeartbeats 4000000 in
set_option maxRecDepth 100000 in
theorem k_X5_add (l : Launch) (D : va_G) (cy : Nat → ClassId) (f : zM) (h : Nat) (al : Nat) (ra : Nat) (ga : Nat → Option Nat) (gr : Nat → Option Nat) (nn : Nat) (fg : Nat → Nat) (pt : Nat → Nat) (kd : Nat → Int32) (ln : Nat → Nat) (pp : Nat → Nat → Int64) (wg : Nat → Int64) (wd : Nat → Int32) (hs : Nat → Int32) (bf : Nat → Int32) (q : Nat) (kdq : Int32) (pa : Nat) (wgq : Int64) (wdq : Int32) (nuq : Int32) (hsq : Int32) (bfq : Int32) (t : Nat) (gp : Nat → Int64) (p0 : f h = some (.inr (5, [.ref al, .ref ra, .int (nI nn)]))) (p1 : f al = some (.inl (cy 3, 60, .inr (.inr (.inr (.inr ga)))))) (p2 : f ra = some (.inl (cy 3, 60, .inr (.inr (.inr (.inr gr)))))) (p3 : f q = some (.inr (4, [.int kdq, .ref pa, .long wgq, .int wdq, .int nuq, .int hsq, .int bfq]))) (p4 : f pa = some (.inl (cy 1, t, .inr (.inl gp)))) (hF : ∀ i9 : Nat, i9 < nn → f (fg i9) = some (.inr (4, [.int (kd i9), .ref (pt i9), .long (wg i9), .int (wd i9), .int (nI i9), .int (hs i9), .int (bf i9)]))) (hP : ∀ i9 : Nat, i9 < nn → f (pt i9) = some (.inl (cy 1, (ln i9), .inr (.inl (pp i9))))) (hn59 : nn < 60) (hga : ∀ i, i < nn → ga i = some (fg i)) (hgr : ∀ k, k < nn → ∃ j, j < nn ∧ gr k = some (fg j)) (hln : ∀ i, i < nn → ln i ≤ 15) (hk5 : ∀ i, i < nn → kd i = 5 → 3 ≤ ln i) (hfi : ∀ i, i < nn → ∀ j, j < nn → fg i = fg j → i = j) (hq : ∀ j, j < nn → fg j ≠ q) (ht : t ≤ 15) (h5q : kdq = 5 → 3 ≤ t) (har : al ≠ ra) (hrf : kdq = 4 → ∀ k, k < t → gp k = (-1) ∨ ∃ j9, j9 < nn ∧ gp k = lN j9) (hgi : ∀ k, k < nn → ∀ k2, k2 < nn → gr k = gr k2 → k = k2) : zCi l D cy yX5_add cX5_add 2 (Option.some Jvm.ClassFile.FieldType.int) rmX5_add [.ref h, .ref q] f (fun (r : Int32) (f1 : zM) => ∃ (hq1 : Int32) (bq : Int32) (gr1 : Nat → Option Nat) (bf1 : Nat → Int32), r = (nI nn) ∧ (hq1 = zHash kdq nn t gp hs) ∧ (zRI nn fg gr bf (fun j => zCM nn bf (kd j) (ln j) (pp j) (nI j) kdq t gp (nI nn)) q gr1 bf1 bq) ∧ (∀ k, k < nn + 1 → gr1 k = some q ∨ ∃ j, j < nn ∧ gr1 k = some (fg j)) ∧ f1 h = some (.inr (5, [.ref al, .ref ra, .int (nI (nn + 1))])) ∧ f1 al = some (.inl (cy 3, 60, .inr (.inr (.inr (.inr (va_up ga nn (some q))))))) ∧ f1 ra = some (.inl (cy 3, 60, .inr (.inr (.inr (.inr gr1))))) ∧ (∀ i9 : Nat, i9 < (nn + 1) → f1 ((va_up fg nn q) i9) = some (.inr (4, [.int (va_up kd nn kdq i9), .ref (va_up pt nn pa i9), .long (va_up wg nn wgq i9), .int (va_up wd nn wdq i9), .int (nI i9), .int (va_up hs nn hq1 i9), .int (va_up bf1 nn bq i9)]))) ∧ (∀ i9 : Nat, i9 < (nn + 1) → f1 ((va_up pt nn pa) i9) = some (.inl (cy 1, (va_up ln nn t i9), .inr (.inl (va_up pp nn gp i9))))) ∧ (∀ (b : Nat) (e : va_E), f b = some e → b ≠ h → b ≠ al → b ≠ ra → b ≠ q → (∀ j9 : Nat, j9 < nn → b ≠ fg j9) → f1 b = some e)) := by
  intro sz
  refine z_body (by decide +kernel) (Nat.le_of_ble_eq_true rfl) ?_
  intro p e s m below meth c ls C hr hin hsz hz hl
  subst hsz
  have hx := C.1
  have hb := C.2.1
  have hA : ∀ q, s.heap.size ≤ q → zA f s.heap.size q := fun q h => Or.inr h
  have hS : va_S (zA f s.heap.size) s.heap s.heap [] := va_S.rf
  have hl : lv_has ls 2 [(0, .ref h), (1, .ref q)] := hl
  refine lv_aload_n hx hb dX5_add_0 rfl (lv_at hl 1 rfl) ?_
  refine lv_aload_n hx hb dX5_add_1 rfl (lv_at hl 0 rfl) ?_
  refine z_get (v := .int (nI nn)) C hz p0 zl5 mFX5_20 (by decide) rfl dX5_add_2 ?_
  refine z_putN (fs' := [.int kdq, .ref pa, .long wgq, .int wdq, .int (nI nn), .int hsq, .int bfq]) C hz hS p3 zl4 mFNX5_28 (by decide) rfl rfl rfl (Nat.le_of_ble_eq_true rfl) rfl dX5_add_5 (fun H locs f1 a2 k3 hz hS => ?_)
  refine lv_aload_n hx hb dX5_add_8 rfl (lv_at hl 1 rfl) ?_
  refine lv_aload_n hx hb dX5_add_9 rfl (lv_at hl 0 rfl) ?_
  refine lv_aload_n hx hb dX5_add_10 rfl (lv_at hl 1 rfl) ?_
  have a4 : f1 h = some (.inr (5, [.ref al, .ref ra, .int (nI nn)])) := (k3 _ (z_ne p0 p3 rfl)).trans p0
  have a5 : f1 al = some (.inl (cy 3, 60, .inr (.inr (.inr (.inr ga))))) := (k3 _ (z_ne p1 p3 rfl)).trans p1
  have a6 : f1 pa = some (.inl (cy 1, t, .inr (.inl gp))) := (k3 _ (z_neO p4 p3 rfl)).trans p4
  have F7 : ∀ i9 : Nat, i9 < nn → f1 (fg i9) = some (.inr (4, [.int (kd i9), .ref (pt i9), .long (wg i9), .int (wd i9), .int (nI i9), .int (hs i9), .int (bf i9)])) := fun i9 h9 => (k3 _ (hq i9 h9)).trans (hF i9 h9)
  refine z_callVi (As := [.ref q]) C hz hS hA hl (k_X5_hashOf l D cy f1 h al ra ga nn fg pt kd ln pp wg wd hs bf q kdq pa wgq wdq (nI nn) hsq bfq t gp a4 a5 a2 a6 F7 (by omega) hga (by omega) rfl hrf) zyX5_hashOf mMX5_31 a4 zl5 rfl rfl (Nat.le_of_ble_eq_true rfl) ⟨Nat.le_of_ble_eq_true rfl, Nat.le_of_ble_eq_true rfl⟩ ⟨Nat.le_of_ble_eq_true rfl, Nat.le_of_ble_eq_true rfl⟩ dX5_add_11 (fun r f8 H locs h9 hz hS => ?_)
  obtain ⟨rfl, k10⟩ := h9
  have a11 : f8 q = some (.inr (4, [.int kdq, .ref pa, .long wgq, .int wdq, .int (nI nn), .int hsq, .int bfq])) := k10 _ _ a2 
  refine z_putN (fs' := [.int kdq, .ref pa, .long wgq, .int wdq, .int (nI nn), .int (zHash kdq nn t gp hs), .int bfq]) C hz hS a11 zl4 mFNX5_35 (by decide) rfl rfl rfl (Nat.le_of_ble_eq_true rfl) rfl dX5_add_14 (fun H locs f12 a13 k14 hz hS => ?_)
  refine lv_aload_n hx hb dX5_add_17 rfl (lv_at hl 0 rfl) ?_
  refine lv_aload_n hx hb dX5_add_18 rfl (lv_at hl 1 rfl) ?_
  have a15 : f8 h = some (.inr (5, [.ref al, .ref ra, .int (nI nn)])) := k10 _ _ a4 
  have a16 : f12 h = some (.inr (5, [.ref al, .ref ra, .int (nI nn)])) := (k14 _ (z_ne a15 a11 rfl)).trans a15
  have a17 : f8 al = some (.inl (cy 3, 60, .inr (.inr (.inr (.inr ga))))) := k10 _ _ a5 
  have a18 : f12 al = some (.inl (cy 3, 60, .inr (.inr (.inr (.inr ga))))) := (k14 _ (z_ne a17 a11 rfl)).trans a17
  have a19 : f1 ra = some (.inl (cy 3, 60, .inr (.inr (.inr (.inr gr))))) := (k3 _ (z_ne p2 p3 rfl)).trans p2
  have a20 : f8 ra = some (.inl (cy 3, 60, .inr (.inr (.inr (.inr gr))))) := k10 _ _ a19 
  have a21 : f12 ra = some (.inl (cy 3, 60, .inr (.inr (.inr (.inr gr))))) := (k14 _ (z_ne a20 a11 rfl)).trans a20
  have a22 : f8 pa = some (.inl (cy 1, t, .inr (.inl gp))) := k10 _ _ a6 
  have a23 : f12 pa = some (.inl (cy 1, t, .inr (.inl gp))) := (k14 _ (z_neO a22 a11 rfl)).trans a22
  have F24 : ∀ i9 : Nat, i9 < nn → f8 (fg i9) = some (.inr (4, [.int (kd i9), .ref (pt i9), .long (wg i9), .int (wd i9), .int (nI i9), .int (hs i9), .int (bf i9)])) := fun i9 h9 => k10 _ _ (F7 i9 h9) 
  have F25 : ∀ i9 : Nat, i9 < nn → f12 (fg i9) = some (.inr (4, [.int (kd i9), .ref (pt i9), .long (wg i9), .int (wd i9), .int (nI i9), .int (hs i9), .int (bf i9)])) := fun i9 h9 => (k14 _ (hq i9 h9)).trans (F24 i9 h9)
  have F26 : ∀ i9 : Nat, i9 < nn → f1 (pt i9) = some (.inl (cy 1, (ln i9), .inr (.inl (pp i9)))) := fun i9 h9 => (k3 _ (z_neO (hP i9 h9) p3 rfl)).trans (hP i9 h9)
  have F27 : ∀ i9 : Nat, i9 < nn → f8 (pt i9) = some (.inl (cy 1, (ln i9), .inr (.inl (pp i9)))) := fun i9 h9 => k10 _ _ (F26 i9 h9) 
  have F28 : ∀ i9 : Nat, i9 < nn → f12 (pt i9) = some (.inl (cy 1, (ln i9), .inr (.inl (pp i9)))) := fun i9 h9 => (k14 _ (z_neO (F27 i9 h9) a11 rfl)).trans (F27 i9 h9)
  refine z_callVv (As := [.ref q]) C hz hS hA hl (k_X5_rank l D cy f12 h al ra ga gr nn fg pt kd ln pp wg wd hs bf q kdq pa wgq wdq (nI nn) (zHash kdq nn t gp hs) bfq t gp a16 a18 a21 a13 a23 F25 F28 hn59 hga hgr hln hk5 hfi hq ht h5q har hgi) zyX5_rank mMX5_38 a16 zl5 rfl rfl (Nat.le_of_ble_eq_true rfl) ⟨Nat.le_of_ble_eq_true rfl, Nat.le_of_ble_eq_true rfl⟩ ⟨Nat.le_of_ble_eq_true rfl, Nat.le_of_ble_eq_true rfl⟩ dX5_add_19 (fun  f29 H locs h30 hz hS => ?_)
  obtain ⟨bq_31, gr_32, bf_33, p34, p35, a36, a37, F38, k39⟩ := h30
  refine lv_aload_n hx hb dX5_add_22 rfl (lv_at hl 0 rfl) ?_
  have a40 : f29 h = some (.inr (5, [.ref al, .ref ra, .int (nI nn)])) := k39 _ _ a16 (z_ne a16 a13 rfl) (z_ne a16 a21 rfl) (fun j9 h8 => (z_ne a16 (F25 j9 h8) rfl))
  refine z_get (v := .ref al) C hz a40 zl5 mFX5_13 (by decide) rfl dX5_add_23 ?_
  refine lv_aload_n hx hb dX5_add_26 rfl (lv_at hl 0 rfl) ?_
  refine z_get (v := .int (nI nn)) C hz a40 zl5 mFX5_20 (by decide) rfl dX5_add_27 ?_
  refine lv_aload_n hx hb dX5_add_30 rfl (lv_at hl 1 rfl) ?_
  have a41 : f29 al = some (.inl (cy 3, 60, .inr (.inr (.inr (.inr ga))))) := k39 _ _ a18 (z_ne a18 a13 rfl) har (fun j9 h8 => (z_ne a18 (F25 j9 h8) rfl))
  refine z_astq nn C hz hS a41 rfl a36 zl4 rfl (by omega) (by omega) dX5_add_31 (fun H locs f42 a43 k44 hz hS => ?_)
  refine lv_aload_n hx hb dX5_add_32 rfl (lv_at hl 0 rfl) ?_
  refine lv_dup hx hb dX5_add_33 rfl ?_
  have a45 : f42 h = some (.inr (5, [.ref al, .ref ra, .int (nI nn)])) := (k44 _ (z_ne a40 a41 rfl)).trans a40
  refine z_get (v := .int (nI nn)) C hz a45 zl5 mFX5_20 (by decide) rfl dX5_add_34 ?_
  refine lv_iconst (v := 1) hx hb dX5_add_37 (by decide) ?_
  refine lv_iadd hx hb dX5_add_38 ?_
  refine lv_topi (fun y46 e47 => ?_)
  obtain rfl : y46 = nI (nn + 1) := e47.trans (nI_1 nn)
  refine z_put (fs' := [.ref al, .ref ra, .int (nI (nn + 1))]) C hz hS a45 zl5 mFX5_20 (by decide) rfl rfl rfl (Nat.le_of_ble_eq_true rfl) rfl dX5_add_39 (fun H locs f48 a49 k50 hz hS => ?_)
  refine lv_aload_n hx hb dX5_add_42 rfl (lv_at hl 1 rfl) ?_
  have a51 : f42 q = some (.inr (4, [.int kdq, .ref pa, .long wgq, .int wdq, .int (nI nn), .int (zHash kdq nn t gp hs), .int bq_31])) := (k44 _ (z_ne a36 a41 rfl)).trans a36
  have a52 : f48 q = some (.inr (4, [.int kdq, .ref pa, .long wgq, .int wdq, .int (nI nn), .int (zHash kdq nn t gp hs), .int bq_31])) := (k50 _ (z_ne a51 a45 rfl)).trans a51
  refine z_getN (v := .int (nI nn)) C hz a52 zl4 mFNX5_28 (by decide) rfl dX5_add_43 ?_
  have a53 : f42 ra = some (.inl (cy 3, 60, .inr (.inr (.inr (.inr gr_32))))) := (k44 _ (Ne.symm har)).trans a37
  have a54 : f48 ra = some (.inl (cy 3, 60, .inr (.inr (.inr (.inr gr_32))))) := (k50 _ (z_ne a53 a45 rfl)).trans a53
  have F55 : ∀ i9 : Nat, i9 < nn → f42 (fg i9) = some (.inr (4, [.int (kd i9), .ref (pt i9), .long (wg i9), .int (wd i9), .int (nI i9), .int (hs i9), .int (bf_33 i9)])) := fun i9 h9 => (k44 _ (z_ne (F38 i9 h9) a41 rfl)).trans (F38 i9 h9)
  have F56 : ∀ i9 : Nat, i9 < nn → f48 (fg i9) = some (.inr (4, [.int (kd i9), .ref (pt i9), .long (wg i9), .int (wd i9), .int (nI i9), .int (hs i9), .int (bf_33 i9)])) := fun i9 h9 => (k50 _ (z_ne (F55 i9 h9) a45 rfl)).trans (F55 i9 h9)
  have a57 : f48 al = some (.inl (cy 3, 60, .inr (.inr (.inr (.inr (va_up ga nn (some q))))))) := (k50 _ (z_ne a43 a45 rfl)).trans a43
  have F58 : ∀ i9 : Nat, i9 < nn → f29 (pt i9) = some (.inl (cy 1, (ln i9), .inr (.inl (pp i9)))) := fun i9 h9 => k39 _ _ (F28 i9 h9) (z_neO (F28 i9 h9) a13 rfl) (z_neA (F28 i9 h9) a21 rfl) (fun j9 h8 => (z_neO (F28 i9 h9) (F25 j9 h8) rfl))
  have F59 : ∀ i9 : Nat, i9 < nn → f42 (pt i9) = some (.inl (cy 1, (ln i9), .inr (.inl (pp i9)))) := fun i9 h9 => (k44 _ (z_neA (F58 i9 h9) a41 rfl)).trans (F58 i9 h9)
  have F60 : ∀ i9 : Nat, i9 < nn → f48 (pt i9) = some (.inl (cy 1, (ln i9), .inr (.inl (pp i9)))) := fun i9 h9 => (k50 _ (z_neO (F59 i9 h9) a45 rfl)).trans (F59 i9 h9)
  have a61 : f29 pa = some (.inl (cy 1, t, .inr (.inl gp))) := k39 _ _ a23 (z_neO a23 a13 rfl) (z_neA a23 a21 rfl) (fun j9 h8 => (z_neO a23 (F25 j9 h8) rfl))
  have a62 : f42 pa = some (.inl (cy 1, t, .inr (.inl gp))) := (k44 _ (z_neA a61 a41 rfl)).trans a61
  have a63 : f48 pa = some (.inl (cy 1, t, .inr (.inl gp))) := (k50 _ (z_neO a62 a45 rfl)).trans a62
  exact z_iret C hr rfl hz hS ⟨(zHash kdq nn t gp hs), bq_31, gr_32, bf_33, rfl, rfl, p35, p34, a49, a57, a54, (z_famP (n := nn) (T := fun i9 => .inr (4, [.int (kd i9), .ref (pt i9), .long (wg i9), .int (wd i9), .int (nI i9), .int (hs i9), .int (bf_33 i9)])) (T' := fun i9 => .inr (4, [.int (va_up kd nn kdq i9), .ref (va_up pt nn pa i9), .long (va_up wg nn wgq i9), .int (va_up wd nn wdq i9), .int (nI i9), .int (va_up hs nn (zHash kdq nn t gp hs) i9), .int (va_up bf_33 nn bq_31 i9)])) F56 (by simp only [va_up_self]; exact a52) (fun i9 h9 => va_up_ne _ _ (by omega)) (va_up_self _ _ _) (fun i9 h9 => by simp only [va_up_ne _ _ (show i9 ≠ nn by omega)])), (z_famP (n := nn) (T := fun i9 => .inl (cy 1, (ln i9), .inr (.inl (pp i9)))) (T' := fun i9 => .inl (cy 1, (va_up ln nn t i9), .inr (.inl (va_up pp nn gp i9)))) F60 (by simp only [va_up_self]; exact a63) (fun i9 h9 => va_up_ne _ _ (by omega)) (va_up_self _ _ _) (fun i9 h9 => by simp only [va_up_ne _ _ (show i9 ≠ nn by omega)])), (by
        intro b e hb n0 n1 n2 n3 n4
        have hb0 : f1 b = some e := (k3 b n3).trans hb
        have hb1 : f8 b = some e := k10 b e hb0 
        have hb2 : f12 b = some e := (k14 b n3).trans hb1
        have hb3 : f29 b = some e := k39 b e hb2 n3 n2 n4
        have hb4 : f42 b = some e := (k44 b n1).trans hb3
        have hb5 : f48 b = some e := (k50 b n0).trans hb4
        exact hb5)⟩ (Nat.le_of_ble_eq_true rfl) (Nat.le_of_ble_eq_true rfl) dX5_add_46
theorem z_m1f {nn : Nat} {v : Int64} (hn : nn ≤ 60) (h : v = (-1)) : ∀ j, j < nn → v ≠ lN j := fun j hj e => by
  have h2 : (lN j).toInt = (-1 : Int64).toInt := by rw [← e, h]
  rw [lN_toInt (by omega)] at h2
  have e1 : (-1 : Int64).toInt = -1 := by decide
  rw [e1] at h2
  omega
abbrev rmX5_weighPairs : Room := { frames := 2, cells := 0, slots := 0, locals := 43 }
set_option maxHeartbeats 4000000 in
set_option maxRecDepth 100000 in
theorem k_X5_weighPairs (l : Launch) (D : va_G) (cy : Nat → ClassId) (f : zM) (h : Nat) (al : Nat) (ra : Nat) (ga : Nat → Option Nat) (nn : Nat) (fg : Nat → Nat) (pt : Nat → Nat) (kd : Nat → Int32) (ln : Nat → Nat) (pp : Nat → Nat → Int64) (wg : Nat → Int64) (wd : Nat → Int32) (hs : Nat → Int32) (bf : Nat → Int32) (p0 : f h = some (.inr (5, [.ref al, .ref ra, .int (nI nn)]))) (p1 : f al = some (.inl (cy 3, 60, .inr (.inr (.inr (.inr ga)))))) (hF : ∀ i9 : Nat, i9 < nn → f (fg i9) = some (.inr (4, [.int (kd i9), .ref (pt i9), .long (wg i9), .int (wd i9), .int (nI i9), .int (hs i9), .int (bf i9)]))) (hP : ∀ i9 : Nat, i9 < nn → f (pt i9) = some (.inl (cy 1, (ln i9), .inr (.inl (pp i9))))) (hn60 : nn ≤ 60) (hga : ∀ i, i < nn → ga i = some (fg i)) (hfi : ∀ i, i < nn → ∀ j, j < nn → fg i = fg j → i = j) (hk4 : ∀ i, i < nn → kd i = 4 → 2 ≤ ln i) (hln : ∀ i, i < nn → ln i ≤ 15) (hrp : zRP nn kd pp) : zCv l D cy yX5_weighPairs cX5_weighPairs 5 none rmX5_weighPairs [.ref h] f (fun (f1 : zM) => ∃ (wg1 : Nat → Int64), (zWV nn kd pp wg wg1) ∧ (∀ i9 : Nat, i9 < nn → f1 (fg i9) = some (.inr (4, [.int (kd i9), .ref (pt i9), .long (wg1 i9), .int (wd i9), .int (nI i9), .int (hs i9), .int (bf i9)]))) ∧ (∀ (b : Nat) (e : va_E), f b = some e → (∀ j9 : Nat, j9 < nn → b ≠ fg j9) → f1 b = some e)) := by
  intro sz
  refine z_body (by decide +kernel) (Nat.le_of_ble_eq_true rfl) ?_
  intro p e s m below meth c ls C hr hin hsz hz hl
  subst hsz
  have hx := C.1
  have hb := C.2.1
  have hA : ∀ q, s.heap.size ≤ q → zA f s.heap.size q := fun q h => Or.inr h
  have hS : va_S (zA f s.heap.size) s.heap s.heap [] := va_S.rf
  have hl : lv_has ls 5 [(0, .ref h)] := hl
  refine lv_iconst (v := 0) hx hb dX5_weighPairs_0 (by decide) ?_
  refine lv_istore_n (lv' := [(1, .int 0), (0, .ref h)]) hx hb dX5_weighPairs_1 rfl hl (by decide) rfl (fun ls hl => ?_)
  have lp1 : ∀ (n : Nat) (i : Nat) (wgv : Nat → Int64) (fL2 : zM) (H : Heap) (locs : List Loc) (ls : Array Slot), (nn - i) < n → (i ≤ nn) → (zWV i kd pp wg wgv) → (∀ j, i ≤ j → wgv j = wg j) → fL2 h = some (.inr (5, [.ref al, .ref ra, .int (nI nn)])) → fL2 al = some (.inl (cy 3, 60, .inr (.inr (.inr (.inr ga))))) → (∀ i9 : Nat, i9 < nn → fL2 (fg i9) = some (.inr (4, [.int (kd i9), .ref (pt i9), .long (wgv i9), .int (wd i9), .int (nI i9), .int (hs i9), .int (bf i9)]))) → (∀ i9 : Nat, i9 < nn → fL2 (pt i9) = some (.inl (cy 1, (ln i9), .inr (.inl (pp i9))))) → (∀ (b : Nat) (e : va_E), f b = some e → (∀ j9 : Nat, j9 < nn → b ≠ fg j9) → fL2 b = some e) → zH D (zA f s.heap.size) fL2 H → va_S (zA f s.heap.size) s.heap H locs → lv_has ls 5 [(0, .ref h), (1, .int (nI i))] → W p l e rmX5_weighPairs s m ([.ref h] : List Value).toArray below meth c H locs 0 0 (MQ below (va_Qv (fun (f1 : zM) => ∃ (wg1 : Nat → Int64), (zWV nn kd pp wg wg1) ∧ (∀ i9 : Nat, i9 < nn → f1 (fg i9) = some (.inr (4, [.int (kd i9), .ref (pt i9), .long (wg1 i9), .int (wd i9), .int (nI i9), .int (hs i9), .int (bf i9)]))) ∧ (∀ (b : Nat) (e : va_E), f b = some e → (∀ j9 : Nat, j9 < nn → b ≠ fg j9) → f1 b = some e)) (zB D f s.heap.size) (zA f s.heap.size)) ([.ref h] : List Value).toArray s rmX5_weighPairs.cells rmX5_weighPairs.slots (zA f s.heap.size)) (F0 m 2 ls []) := by
    intro n
    induction n with
    | zero => intro i wgv fL2 H locs ls hmz; exact absurd hmz (Nat.not_lt_zero _)
    | succ n ih =>
      intro i wgv fL2 H locs ls hmz hi hwv hww a4 a5 F6 F7 k3 hz hS hl
      refine lv_iload_n hx hb dX5_weighPairs_2 rfl (lv_at hl 1 rfl) ?_
      refine lv_aload_n hx hb dX5_weighPairs_3 rfl (lv_at hl 0 rfl) ?_
      refine z_get (v := .int (nI nn)) C hz a4 zl5 mFX5_20 (by decide) rfl dX5_weighPairs_4 ?_
      refine lv_icmp_ge (tgt := 85) hx hb dX5_weighPairs_7 (by decide) (fun c8 => ?_) (fun c8 => ?_)
      · replace c8 : (nn ≤ i) := (nI_leI (a := nn) (b := i) (by omega) (by omega)).mp c8
        exact z_vret C hr hz hS ⟨wgv, (by obtain rfl : i = nn := (by omega); exact hwv), F6, (by
              intro b e hb n0
              have hb0 : fL2 b = some e := k3 b e hb n0
              exact hb0)⟩ (Nat.le_of_ble_eq_true rfl) (Nat.le_of_ble_eq_true rfl) dX5_weighPairs_85
      · replace c8 : ¬ (nn ≤ i) := fun h => c8 ((nI_leI (a := nn) (b := i) (by omega) (by omega)).mpr h)
        refine lv_aload_n hx hb dX5_weighPairs_10 rfl (lv_at hl 0 rfl) ?_
        refine z_get (v := .ref al) C hz a4 zl5 mFX5_13 (by decide) rfl dX5_weighPairs_11 ?_
        refine lv_iload_n hx hb dX5_weighPairs_14 rfl (lv_at hl 1 rfl) ?_
        refine z_aldq i C hz a5 rfl rfl (by omega) (by omega) dX5_weighPairs_15 ?_
        rw [hga i (by omega)]
        refine W.eq (g2 := F0 m 16 ls [.ref (fg i)]) rfl ?_
        refine lv_astore_n (lv' := [(2, .ref (fg i)), (0, .ref h), (1, .int (nI i))]) hx hb dX5_weighPairs_16 rfl hl (by decide) rfl (fun ls hl => ?_)
        refine lv_aload_n hx hb dX5_weighPairs_17 rfl (lv_at hl 0 rfl) ?_
        have a9 : fL2 (fg i) = some (.inr (4, [.int (kd i), .ref (pt i), .long (wgv i), .int (wd i), .int (nI i), .int (hs i), .int (bf i)])) := F6 i (show i < nn by omega)
        refine z_getN (v := .int (kd i)) C hz a9 zl4 mFNX5_42 (by decide) rfl dX5_weighPairs_18 ?_
        refine lv_iconst (v := 4) hx hb dX5_weighPairs_21 (by decide) ?_
        refine lv_icmp_ne (tgt := 79) hx hb dX5_weighPairs_22 (by decide) (fun c10 => ?_) (fun c10 => ?_)
        · refine lv_iinc (v := nI (i + 1)) (lv' := [(1, .int (nI (i + 1))), (2, .ref (fg i)), (0, .ref h)]) hx hb dX5_weighPairs_79 hl (k := 2) rfl (nI_1 i) (by decide) rfl (fun ls hl => ?_)
          refine lv_goto (tgt := 2) hx hb dX5_weighPairs_82 (by decide) ?_
          exact ih (i + 1) wgv _ _ _ _ (by omega) (by omega) (zWV_no hwv c10 (hww i (Nat.le_refl _))) (fun j9 h9 => hww j9 (by omega)) a4 a5 F6 F7 (by
                intro b e hb n0
                have hb0 : fL2 b = some e := k3 b e hb n0
                exact hb0) hz hS (lv_sub hl [2, 0] rfl)
        · obtain ⟨⟨aw, haw, e0⟩, hr1⟩ := hrp i (by omega) c10
          refine lv_aload_n hx hb dX5_weighPairs_25 rfl (lv_at hl 1 rfl) ?_
          refine lv_aload_n hx hb dX5_weighPairs_26 rfl (lv_at hl 0 rfl) ?_
          refine z_getN (v := .ref (pt i)) C hz a9 zl4 mFNX5_45 (by decide) rfl dX5_weighPairs_27 ?_
          refine lv_iconst (v := 0) hx hb dX5_weighPairs_30 (by decide) ?_
          have a11 : fL2 (pt i) = some (.inl (cy 1, (ln i), .inr (.inl (pp i)))) := F7 i (show i < nn by omega)
          refine z_lald 0 C hz a11 (by decide) (by have h9 := hk4 i (by omega) c10; omega) (by have h9 := hln i (by omega); omega) dX5_weighPairs_31 ?_
          refine z_callVq (As := [.long ((pp i) 0)]) C hz hS hA hl (k_X5_find_A l D cy fL2 h al ra ga nn fg ((pp i) 0) aw a4 a5 hn60 hga e0 (by omega)) zyX5_find mMX5_24 a4 zl5 rfl rfl (Nat.le_of_ble_eq_true rfl) ⟨Nat.le_of_ble_eq_true rfl, Nat.le_of_ble_eq_true rfl⟩ ⟨Nat.le_of_ble_eq_true rfl, Nat.le_of_ble_eq_true rfl⟩ dX5_weighPairs_32 (fun r f12 H locs h13 hz hS => ?_)
          obtain ⟨rfl, k14⟩ := h13
          refine W.eq (g2 := F0 m 35 ls [.ref (fg aw)]) rfl ?_
          refine lv_astore_n (lv' := [(3, .ref (fg aw)), (2, .ref (fg i)), (0, .ref h), (1, .int (nI i))]) hx hb dX5_weighPairs_35 rfl hl (by decide) rfl (fun ls hl => ?_)
          refine lv_aload_n hx hb dX5_weighPairs_36 rfl (lv_at hl 2 rfl) ?_
          refine lv_aload_n hx hb dX5_weighPairs_37 rfl (lv_at hl 1 rfl) ?_
          have a15 : f12 (fg i) = some (.inr (4, [.int (kd i), .ref (pt i), .long (wgv i), .int (wd i), .int (nI i), .int (hs i), .int (bf i)])) := k14 _ _ a9 
          refine z_getN (v := .ref (pt i)) C hz a15 zl4 mFNX5_45 (by decide) rfl dX5_weighPairs_38 ?_
          refine lv_iconst (v := 1) hx hb dX5_weighPairs_41 (by decide) ?_
          have a16 : f12 (pt i) = some (.inl (cy 1, (ln i), .inr (.inl (pp i)))) := k14 _ _ a11 
          refine z_lald 1 C hz a16 (by decide) (by have h9 := hk4 i (by omega) c10; omega) (by have h9 := hln i (by omega); omega) dX5_weighPairs_42 ?_
          rcases hr1 with hm1 | ⟨bw, hbw, e1⟩
          · have a17 : f12 h = some (.inr (5, [.ref al, .ref ra, .int (nI nn)])) := k14 _ _ a4 
            refine z_callVq (As := [.long ((pp i) 1)]) C hz hS hA hl (k_X5_find_B l D cy f12 h al ra nn ((pp i) 1) a17 hn60 (z_m1f hn60 hm1)) zyX5_find mMX5_24 a17 zl5 rfl rfl (Nat.le_of_ble_eq_true rfl) ⟨Nat.le_of_ble_eq_true rfl, Nat.le_of_ble_eq_true rfl⟩ ⟨Nat.le_of_ble_eq_true rfl, Nat.le_of_ble_eq_true rfl⟩ dX5_weighPairs_43 (fun r f18 H locs h19 hz hS => ?_)
            obtain ⟨rfl, k20⟩ := h19
            refine W.eq (g2 := F0 m 46 ls [.null]) rfl ?_
            refine lv_astoreN (lv' := [(4, .null), (3, .ref (fg aw)), (2, .ref (fg i)), (0, .ref h), (1, .int (nI i))]) hx hb dX5_weighPairs_46 hl (by decide) rfl (fun ls hl => ?_)
            refine lv_aload_n hx hb dX5_weighPairs_48 rfl (lv_at hl 2 rfl) ?_
            refine lv_aload_n hx hb dX5_weighPairs_49 rfl (lv_at hl 1 rfl) ?_
            refine lv_ifnonnull (tgt := 57) hx hb dX5_weighPairs_50 (by decide) ?_
            refine lv_aload_n hx hb dX5_weighPairs_57 rfl (lv_at hl 1 rfl) ?_
            have F21 : ∀ i9 : Nat, i9 < nn → f12 (fg i9) = some (.inr (4, [.int (kd i9), .ref (pt i9), .long (wgv i9), .int (wd i9), .int (nI i9), .int (hs i9), .int (bf i9)])) := fun i9 h9 => k14 _ _ (F6 i9 h9) 
            have F22 : ∀ i9 : Nat, i9 < nn → f18 (fg i9) = some (.inr (4, [.int (kd i9), .ref (pt i9), .long (wgv i9), .int (wd i9), .int (nI i9), .int (hs i9), .int (bf i9)])) := fun i9 h9 => k20 _ _ (F21 i9 h9) 
            have a23 : f18 (fg aw) = some (.inr (4, [.int (kd aw), .ref (pt aw), .long (wgv aw), .int (wd aw), .int (nI aw), .int (hs aw), .int (bf aw)])) := F22 aw (show aw < nn by omega)
            refine z_callVl (As := []) C hz hS hA hl (k_X4_heavyWeight l D cy f18 (fg aw) (kd aw) (pt aw) (wgv aw) (wd aw) (nI aw) (hs aw) (bf aw) a23 ) zyX4_heavyWeight mMX5_49 a23 zl4 rfl rfl (Nat.le_of_ble_eq_true rfl) ⟨Nat.le_of_ble_eq_true rfl, Nat.le_of_ble_eq_true rfl⟩ ⟨Nat.le_of_ble_eq_true rfl, Nat.le_of_ble_eq_true rfl⟩ dX5_weighPairs_58 (fun r f24 H locs h25 hz hS => ?_)
            obtain ⟨rfl, k26⟩ := h25
            refine lv_aloadN hx hb dX5_weighPairs_61 (lv_at hl 0 rfl) ?_
            refine lv_ifnonnullN hx hb dX5_weighPairs_63 ?_
            refine lv_lconst (v := 0) hx hb dX5_weighPairs_66 (by decide) ?_
            refine lv_goto (tgt := 75) hx hb dX5_weighPairs_67 (by decide) ?_
            refine lv_ladd hx hb dX5_weighPairs_75 ?_
            have F27 : ∀ i9 : Nat, i9 < nn → f24 (fg i9) = some (.inr (4, [.int (kd i9), .ref (pt i9), .long (wgv i9), .int (wd i9), .int (nI i9), .int (hs i9), .int (bf i9)])) := fun i9 h9 => k26 _ _ (F22 i9 h9) 
            have a28 : f24 (fg i) = some (.inr (4, [.int (kd i), .ref (pt i), .long (wgv i), .int (wd i), .int (nI i), .int (hs i), .int (bf i)])) := F27 i (show i < nn by omega)
            refine z_putN (fs' := [.int (kd i), .ref (pt i), .long ((zHV (kd aw) (wgv aw)) + 0), .int (wd i), .int (nI i), .int (hs i), .int (bf i)]) C hz hS a28 zl4 mFNX5_53 (by decide) rfl rfl rfl (Nat.le_of_ble_eq_true rfl) rfl dX5_weighPairs_76 (fun H locs f29 a30 k31 hz hS => ?_)
            have F32 : ∀ i9 : Nat, i9 < nn → f29 (fg i9) = some (.inr (4, [.int (kd i9), .ref (pt i9), .long (va_up wgv i ((zHV (kd aw) (wgv aw)) + 0) i9), .int (wd i9), .int (nI i9), .int (hs i9), .int (bf i9)])) := z_famW (T := fun i9 => .inr (4, [.int (kd i9), .ref (pt i9), .long (wgv i9), .int (wd i9), .int (nI i9), .int (hs i9), .int (bf i9)])) (T' := fun i9 => .inr (4, [.int (kd i9), .ref (pt i9), .long (va_up wgv i ((zHV (kd aw) (wgv aw)) + 0) i9), .int (wd i9), .int (nI i9), .int (hs i9), .int (bf i9)])) F27 (show i < nn by omega) (by simp only [va_up_self]; exact a30) k31 (fun i9 h9 => by simp only [va_up_ne _ _ h9]) (fun i9 h9 => hfi i9 h9 i (show i < nn by omega))
            refine lv_iinc (v := nI (i + 1)) (lv' := [(1, .int (nI (i + 1))), (4, .null), (3, .ref (fg aw)), (2, .ref (fg i)), (0, .ref h)]) hx hb dX5_weighPairs_79 hl (k := 4) rfl (nI_1 i) (by decide) rfl (fun ls hl => ?_)
            refine lv_goto (tgt := 2) hx hb dX5_weighPairs_82 (by decide) ?_
            have a33 : f18 h = some (.inr (5, [.ref al, .ref ra, .int (nI nn)])) := k20 _ _ a17 
            have a34 : f24 h = some (.inr (5, [.ref al, .ref ra, .int (nI nn)])) := k26 _ _ a33 
            have a35 : f29 h = some (.inr (5, [.ref al, .ref ra, .int (nI nn)])) := (k31 _ (z_ne a34 a28 rfl)).trans a34
            have a36 : f12 al = some (.inl (cy 3, 60, .inr (.inr (.inr (.inr ga))))) := k14 _ _ a5 
            have a37 : f18 al = some (.inl (cy 3, 60, .inr (.inr (.inr (.inr ga))))) := k20 _ _ a36 
            have a38 : f24 al = some (.inl (cy 3, 60, .inr (.inr (.inr (.inr ga))))) := k26 _ _ a37 
            have a39 : f29 al = some (.inl (cy 3, 60, .inr (.inr (.inr (.inr ga))))) := (k31 _ (z_ne a38 a28 rfl)).trans a38
            have F40 : ∀ i9 : Nat, i9 < nn → f12 (pt i9) = some (.inl (cy 1, (ln i9), .inr (.inl (pp i9)))) := fun i9 h9 => k14 _ _ (F7 i9 h9) 
            have F41 : ∀ i9 : Nat, i9 < nn → f18 (pt i9) = some (.inl (cy 1, (ln i9), .inr (.inl (pp i9)))) := fun i9 h9 => k20 _ _ (F40 i9 h9) 
            have F42 : ∀ i9 : Nat, i9 < nn → f24 (pt i9) = some (.inl (cy 1, (ln i9), .inr (.inl (pp i9)))) := fun i9 h9 => k26 _ _ (F41 i9 h9) 
            have F43 : ∀ i9 : Nat, i9 < nn → f29 (pt i9) = some (.inl (cy 1, (ln i9), .inr (.inl (pp i9)))) := fun i9 h9 => (k31 _ (z_neO (F42 i9 h9) a28 rfl)).trans (F42 i9 h9)
            exact ih (i + 1) (va_up wgv i ((zHV (kd aw) (wgv aw)) + 0)) _ _ _ _ (by omega) (by omega) (zWV_up hwv c10 ⟨aw, haw, e0, Or.inl ⟨hm1, rfl⟩⟩) (fun j9 h9 => (va_up_ne _ _ (by omega)).trans (hww j9 (by omega))) a35 a39 F32 F43 (by
                  intro b e hb n0
                  have hb0 : fL2 b = some e := k3 b e hb n0
                  have hb1 : f12 b = some e := k14 b e hb0 
                  have hb2 : f18 b = some e := k20 b e hb1 
                  have hb3 : f24 b = some e := k26 b e hb2 
                  have hb4 : f29 b = some e := (k31 b (n0 i (show i < nn by omega))).trans hb3
                  exact hb4) hz hS (lv_sub hl [4, 0] rfl)
          · have a44 : f12 h = some (.inr (5, [.ref al, .ref ra, .int (nI nn)])) := k14 _ _ a4 
            have a45 : f12 al = some (.inl (cy 3, 60, .inr (.inr (.inr (.inr ga))))) := k14 _ _ a5 
            refine z_callVq (As := [.long ((pp i) 1)]) C hz hS hA hl (k_X5_find_A l D cy f12 h al ra ga nn fg ((pp i) 1) bw a44 a45 hn60 hga e1 (by omega)) zyX5_find mMX5_24 a44 zl5 rfl rfl (Nat.le_of_ble_eq_true rfl) ⟨Nat.le_of_ble_eq_true rfl, Nat.le_of_ble_eq_true rfl⟩ ⟨Nat.le_of_ble_eq_true rfl, Nat.le_of_ble_eq_true rfl⟩ dX5_weighPairs_43 (fun r f46 H locs h47 hz hS => ?_)
            obtain ⟨rfl, k48⟩ := h47
            refine W.eq (g2 := F0 m 46 ls [.ref (fg bw)]) rfl ?_
            refine lv_astore (lv' := [(4, .ref (fg bw)), (3, .ref (fg aw)), (2, .ref (fg i)), (0, .ref h), (1, .int (nI i))]) hx hb dX5_weighPairs_46 hl (by decide) rfl (fun ls hl => ?_)
            refine lv_aload_n hx hb dX5_weighPairs_48 rfl (lv_at hl 2 rfl) ?_
            refine lv_aload_n hx hb dX5_weighPairs_49 rfl (lv_at hl 1 rfl) ?_
            refine lv_ifnonnull (tgt := 57) hx hb dX5_weighPairs_50 (by decide) ?_
            refine lv_aload_n hx hb dX5_weighPairs_57 rfl (lv_at hl 1 rfl) ?_
            have F49 : ∀ i9 : Nat, i9 < nn → f12 (fg i9) = some (.inr (4, [.int (kd i9), .ref (pt i9), .long (wgv i9), .int (wd i9), .int (nI i9), .int (hs i9), .int (bf i9)])) := fun i9 h9 => k14 _ _ (F6 i9 h9) 
            have F50 : ∀ i9 : Nat, i9 < nn → f46 (fg i9) = some (.inr (4, [.int (kd i9), .ref (pt i9), .long (wgv i9), .int (wd i9), .int (nI i9), .int (hs i9), .int (bf i9)])) := fun i9 h9 => k48 _ _ (F49 i9 h9) 
            have a51 : f46 (fg aw) = some (.inr (4, [.int (kd aw), .ref (pt aw), .long (wgv aw), .int (wd aw), .int (nI aw), .int (hs aw), .int (bf aw)])) := F50 aw (show aw < nn by omega)
            refine z_callVl (As := []) C hz hS hA hl (k_X4_heavyWeight l D cy f46 (fg aw) (kd aw) (pt aw) (wgv aw) (wd aw) (nI aw) (hs aw) (bf aw) a51 ) zyX4_heavyWeight mMX5_49 a51 zl4 rfl rfl (Nat.le_of_ble_eq_true rfl) ⟨Nat.le_of_ble_eq_true rfl, Nat.le_of_ble_eq_true rfl⟩ ⟨Nat.le_of_ble_eq_true rfl, Nat.le_of_ble_eq_true rfl⟩ dX5_weighPairs_58 (fun r f52 H locs h53 hz hS => ?_)
            obtain ⟨rfl, k54⟩ := h53
            refine lv_aload hx hb dX5_weighPairs_61 (lv_at hl 0 rfl) ?_
            refine lv_ifnonnull (tgt := 70) hx hb dX5_weighPairs_63 (by decide) ?_
            refine lv_aload hx hb dX5_weighPairs_70 (lv_at hl 0 rfl) ?_
            have F55 : ∀ i9 : Nat, i9 < nn → f52 (fg i9) = some (.inr (4, [.int (kd i9), .ref (pt i9), .long (wgv i9), .int (wd i9), .int (nI i9), .int (hs i9), .int (bf i9)])) := fun i9 h9 => k54 _ _ (F50 i9 h9) 
            have a56 : f52 (fg bw) = some (.inr (4, [.int (kd bw), .ref (pt bw), .long (wgv bw), .int (wd bw), .int (nI bw), .int (hs bw), .int (bf bw)])) := F55 bw (show bw < nn by omega)
            refine z_getN (v := .long (wgv bw)) C hz a56 zl4 mFNX5_53 (by decide) rfl dX5_weighPairs_72 ?_
            refine lv_ladd hx hb dX5_weighPairs_75 ?_
            have a57 : f52 (fg i) = some (.inr (4, [.int (kd i), .ref (pt i), .long (wgv i), .int (wd i), .int (nI i), .int (hs i), .int (bf i)])) := F55 i (show i < nn by omega)
            refine z_putN (fs' := [.int (kd i), .ref (pt i), .long ((zHV (kd aw) (wgv aw)) + (wgv bw)), .int (wd i), .int (nI i), .int (hs i), .int (bf i)]) C hz hS a57 zl4 mFNX5_53 (by decide) rfl rfl rfl (Nat.le_of_ble_eq_true rfl) rfl dX5_weighPairs_76 (fun H locs f58 a59 k60 hz hS => ?_)
            have F61 : ∀ i9 : Nat, i9 < nn → f58 (fg i9) = some (.inr (4, [.int (kd i9), .ref (pt i9), .long (va_up wgv i ((zHV (kd aw) (wgv aw)) + (wgv bw)) i9), .int (wd i9), .int (nI i9), .int (hs i9), .int (bf i9)])) := z_famW (T := fun i9 => .inr (4, [.int (kd i9), .ref (pt i9), .long (wgv i9), .int (wd i9), .int (nI i9), .int (hs i9), .int (bf i9)])) (T' := fun i9 => .inr (4, [.int (kd i9), .ref (pt i9), .long (va_up wgv i ((zHV (kd aw) (wgv aw)) + (wgv bw)) i9), .int (wd i9), .int (nI i9), .int (hs i9), .int (bf i9)])) F55 (show i < nn by omega) (by simp only [va_up_self]; exact a59) k60 (fun i9 h9 => by simp only [va_up_ne _ _ h9]) (fun i9 h9 => hfi i9 h9 i (show i < nn by omega))
            refine lv_iinc (v := nI (i + 1)) (lv' := [(1, .int (nI (i + 1))), (4, .ref (fg bw)), (3, .ref (fg aw)), (2, .ref (fg i)), (0, .ref h)]) hx hb dX5_weighPairs_79 hl (k := 4) rfl (nI_1 i) (by decide) rfl (fun ls hl => ?_)
            refine lv_goto (tgt := 2) hx hb dX5_weighPairs_82 (by decide) ?_
            have a62 : f46 h = some (.inr (5, [.ref al, .ref ra, .int (nI nn)])) := k48 _ _ a44 
            have a63 : f52 h = some (.inr (5, [.ref al, .ref ra, .int (nI nn)])) := k54 _ _ a62 
            have a64 : f58 h = some (.inr (5, [.ref al, .ref ra, .int (nI nn)])) := (k60 _ (z_ne a63 a57 rfl)).trans a63
            have a65 : f46 al = some (.inl (cy 3, 60, .inr (.inr (.inr (.inr ga))))) := k48 _ _ a45 
            have a66 : f52 al = some (.inl (cy 3, 60, .inr (.inr (.inr (.inr ga))))) := k54 _ _ a65 
            have a67 : f58 al = some (.inl (cy 3, 60, .inr (.inr (.inr (.inr ga))))) := (k60 _ (z_ne a66 a57 rfl)).trans a66
            have F68 : ∀ i9 : Nat, i9 < nn → f12 (pt i9) = some (.inl (cy 1, (ln i9), .inr (.inl (pp i9)))) := fun i9 h9 => k14 _ _ (F7 i9 h9) 
            have F69 : ∀ i9 : Nat, i9 < nn → f46 (pt i9) = some (.inl (cy 1, (ln i9), .inr (.inl (pp i9)))) := fun i9 h9 => k48 _ _ (F68 i9 h9) 
            have F70 : ∀ i9 : Nat, i9 < nn → f52 (pt i9) = some (.inl (cy 1, (ln i9), .inr (.inl (pp i9)))) := fun i9 h9 => k54 _ _ (F69 i9 h9) 
            have F71 : ∀ i9 : Nat, i9 < nn → f58 (pt i9) = some (.inl (cy 1, (ln i9), .inr (.inl (pp i9)))) := fun i9 h9 => (k60 _ (z_neO (F70 i9 h9) a57 rfl)).trans (F70 i9 h9)
            exact ih (i + 1) (va_up wgv i ((zHV (kd aw) (wgv aw)) + (wgv bw))) _ _ _ _ (by omega) (by omega) (zWV_up hwv c10 ⟨aw, haw, e0, Or.inr ⟨bw, hbw, e1, rfl⟩⟩) (fun j9 h9 => (va_up_ne _ _ (by omega)).trans (hww j9 (by omega))) a64 a67 F61 F71 (by
                  intro b e hb n0
                  have hb0 : fL2 b = some e := k3 b e hb n0
                  have hb1 : f12 b = some e := k14 b e hb0 
                  have hb2 : f46 b = some e := k48 b e hb1 
                  have hb3 : f52 b = some e := k54 b e hb2 
                  have hb4 : f58 b = some e := (k60 b (n0 i (show i < nn by omega))).trans hb3
                  exact hb4) hz hS (lv_sub hl [4, 0] rfl)
  exact lp1 (nn - 0 + 1) 0 wg _ _ _ _ (Nat.lt_succ_self _) (by omega) (fun j9 h9 => absurd h9 (Nat.not_lt_zero _)) (fun _ _ => rfl) p0 p1 hF hP (fun b e hb n0 => hb) hz hS (lv_sub hl [1, 0] rfl)
