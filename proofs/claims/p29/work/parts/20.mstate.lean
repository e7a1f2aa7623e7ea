/-- what the reference's rows of figures keep to: as many cells as they say, pairs of earlier figures, steps that are not 0, rows of at most 12 items -/
def zMP1 (i : Nat) (k : Int32) (t : Nat) (gc : Nat → Int64) : Prop := t ≤ 15 ∧ (k = 4 → t = 2 ∧ (∃ j, j < i ∧ gc (16 * i) = lN j) ∧ (gc (16 * i + 1) = (-1) ∨ ∃ j, j < i ∧ gc (16 * i + 1) = lN j)) ∧ (k = 2 → ¬ gc (16 * i + 2) = 0) ∧ (k = 5 → ∃ w, w ≤ 12 ∧ gc (16 * i) = lN w)
def zMP (nn : Nat) (gk gm : Nat → Int32) (gc : Nat → Int64) (ln : Nat → Nat) : Prop := ∀ i, i < nn → gm i = nI (ln i) ∧ zMP1 i (gk i) (ln i) gc
theorem zMP1_keep {i t : Nat} {k : Int32} {gc gc' : Nat → Int64} (h : zMP1 i k t gc) (hc : ∀ j, j < 16 → gc' (16 * i + j) = gc (16 * i + j)) : zMP1 i k t gc' := by
  obtain ⟨h1, h2, h3, h4⟩ := h
  have c0 : gc' (16 * i) = gc (16 * i) := hc 0 (by omega)
  refine ⟨h1, fun q => ?_, fun q => ?_, fun q => ?_⟩
  · obtain ⟨a, b, c⟩ := h2 q
    exact ⟨a, by rw [c0]; exact b, by rw [hc 1 (by omega)]; exact c⟩
  · rw [hc 2 (by omega)]
    exact h3 q
  · rw [c0]
    exact h4 q
theorem zMP_keep {nn : Nat} {gk gk' gm gm' : Nat → Int32} {gc gc' : Nat → Int64} {ln : Nat → Nat} (h : zMP nn gk gm gc ln) (hk : ∀ i, i < nn → gk' i = gk i) (hm : ∀ i, i < nn → gm' i = gm i) (hc : ∀ i, i < nn → ∀ j, j < 16 → gc' (16 * i + j) = gc (16 * i + j)) : zMP nn gk' gm' gc' ln := fun i hi => ⟨by rw [hm i hi]; exact (h i hi).1, by rw [hk i hi]; exact zMP1_keep (h i hi).2 (hc i hi)⟩
theorem zMP_new {nn t : Nat} {gk gm : Nat → Int32} {gc : Nat → Int64} {ln : Nat → Nat} (h : zMP nn gk gm gc ln) (hm : gm nn = nI t) (h1 : zMP1 nn (gk nn) t gc) : zMP (nn + 1) gk gm gc (va_up ln nn t) := by
  intro i hi
  by_cases e : i = nn
  · subst e
    rw [va_up_self]
    exact ⟨hm, h1⟩
  · rw [va_up_ne _ _ e]
    exact h i (by omega)
theorem z_ce (j i : Nat) : 16 * nI j + nI i = nI (16 * j + i) := by
  have e : (16 : Int32) * nI j = nI (16 * j) := pk_mul 16 j
  rw [e, nI_add]
theorem z_c4 (j i : Nat) : 4 * nI j + nI i = nI (4 * j + i) := by
  have e : (4 : Int32) * nI j = nI (4 * j) := pk_mul 4 j
  rw [e, nI_add]
theorem z_ref {gk gm : Nat → Int32} {gc : Nat → Int64} {ln : Nat → Nat} {nn i k : Nat} (h : zMP nn gk gm gc ln) (hi : i < nn) (hn : nn ≤ 60) (h4 : gk i = 4) (hk : k < ln i) : gc (16 * i + k) = (-1) ∨ ∃ j, j < 60 ∧ gc (16 * i + k) = lN j := by
  obtain ⟨-, -, h2, -⟩ := h i hi
  obtain ⟨a, ⟨j, hj, e0⟩, c⟩ := h2 h4
  rcases (show k = 0 ∨ k = 1 by omega) with rfl | rfl
  · exact Or.inr ⟨j, by omega, e0⟩
  · rcases c with c | ⟨j2, hj2, e1⟩
    · exact Or.inl c
    · exact Or.inr ⟨j2, by omega, e1⟩
theorem z_m1L {j : Nat} (hj : j < 2 ^ 31) : ¬ lN j = (-1) := by
  intro h
  have h2 : (lN j).toInt = (-1 : Int64).toInt := by rw [h]
  rw [lN_toInt hj] at h2
  have e1 : (-1 : Int64).toInt = -1 := by decide
  rw [e1] at h2
  omega
theorem zMP1_of {i t : Nat} {k : Int32} {gc : Nat → Int64} (ht : t ≤ 15) (h4 : ¬ k = 4) (h2 : ¬ k = 2) (h5 : ¬ k = 5) : zMP1 i k t gc := ⟨ht, fun h => absurd h h4, fun h => absurd h h2, fun h => absurd h h5⟩
/-- the constants' places: each enumeration's places are told once each, from 0 on -/
def zME (nc : Nat) (ge gp : Nat → Int32) (sq : Nat → Nat) : Prop := (∀ c, c < nc → ∃ e, e < 4 ∧ ge c = nI e) ∧ (∀ c, c < nc → gp c = (-1) ∨ ∃ p, p < nc ∧ gp c = nI p ∧ ∀ e, e < 4 → ge c = nI e → p < sq e) ∧ (∀ e, e < 4 → ∀ p, p < sq e → ∃ c, c < nc ∧ ge c = nI e ∧ gp c = nI p) ∧ (∀ c, c < nc → ∀ d, d < nc → ge c = ge d → gp c = gp d → ¬ gp c = (-1) → c = d) ∧ ∀ e, e < 4 → sq e ≤ nc
theorem z_cr {x : Int32} {j : Nat} (hj : j < 2 ^ 31) (h : x = nI j) : x.toInt64 = lN j := by rw [h]; exact nI_l hj
theorem z_m64 : (-1 : Int32).toInt64 = (-1 : Int64) := by decide
theorem z_uv (g : Nat → Int32) (k : Nat) (v : Int32) : upd g k v = va_up g k v := rfl
theorem z_gw0 {nn : Nat} {gw : Nat → Int32} (h : ∀ i, nn ≤ i → gw i = 0) : gw = va_up gw nn 0 := by
  funext i
  by_cases e : i = nn
  · subst e
    rw [va_up_self]
    exact h i (Nat.le_refl _)
  · rw [va_up_ne _ _ e]
theorem z_hs1 {K K' : Int32} {nn t t' : Nat} {gp G : Nat → Int64} {gh : Nat → Int32} (e : K' = K) (ht : t' = t) (h : ∀ j, j < t → gp j = G j) : upd gh nn (zHash K' nn t' gp gh) = va_up gh nn (zHash K nn t G gh) := by
  subst e ht
  rw [zHash_congr h]
  rfl
theorem z_m2 (c : Nat → Int64) (n : Nat) (a b : Int64) : ∀ j, j < 2 → vp_updL (vp_updL c (16 * n + 0) a) (16 * n + (0 + 1)) b (16 * n + j) = q2 a b j := fun j9 h9 => by
  rcases (show j9 = 0 ∨ j9 = 1 by omega) with rfl | rfl
  · exact (pk_uLn (by omega)).trans pk_uLs
  · exact pk_uLs
theorem z_m3 (c : Nat → Int64) (n : Nat) (a b d : Int64) : ∀ j, j < 3 → vp_updL (vp_updL (vp_updL c (16 * n + 0) a) (16 * n + (0 + 1)) b) (16 * n + (1 + 1)) d (16 * n + j) = q3 a b d j := fun j9 h9 => by
  rcases (show j9 = 0 ∨ j9 = 1 ∨ j9 = 2 by omega) with rfl | rfl | rfl
  · exact (pk_uLn (by omega)).trans ((pk_uLn (by omega)).trans pk_uLs)
  · exact (pk_uLn (by omega)).trans pk_uLs
  · exact pk_uLs
theorem zrowM_1 {nl i b : Nat} {gu : Nat → Int32} {x y : Int32} {gc : Nat → Int64} (h : ∀ j, j < 3 + i → gc (b + j) = qrow nl gu x y j) : ∀ j, j < 3 + (i + 1) → vp_updL gc (b + (3 + i)) (qlaid nl gu (nI i)).toInt64 (b + j) = qrow nl gu x y j := by
  intro j hj
  by_cases e : j = 3 + i
  · subst e
    rw [pk_uLs, zrow_at]
  · rw [pk_uLn (by omega)]
    exact h j (by omega)
theorem zrowM_0 {nl b : Nat} {gu : Nat → Int32} {x y : Int32} {c : Nat → Int64} : ∀ j, j < 3 + 0 → vp_updL (vp_updL (vp_updL c (b + 0) x.toInt64) (b + (0 + 1)) y.toInt64) (b + (1 + 1)) (qlaid nl gu y).toInt64 (b + j) = qrow nl gu x y j := by
  intro j hj
  rcases (show j = 0 ∨ j = 1 ∨ j = 2 by omega) with rfl | rfl | rfl
  · exact (pk_uLn (by omega)).trans ((pk_uLn (by omega)).trans pk_uLs)
  · exact (pk_uLn (by omega)).trans pk_uLs
  · exact pk_uLs
theorem zshelfM_1 {x : Int32} {i b : Nat} {gc : Nat → Int64} (h : ∀ j, j < 1 + i → gc (b + j) = qshelf x j) : ∀ j, j < 1 + (i + 1) → vp_updL gc (b + (1 + i)) (-1) (b + j) = qshelf x j := by
  intro j hj
  by_cases e : j = 1 + i
  · subst e
    rw [pk_uLs, qshelf, if_neg (by omega)]
  · rw [pk_uLn (by omega)]
    exact h j (by omega)
theorem zshelfM_0 {x : Int32} {b : Nat} {c : Nat → Int64} : ∀ j, j < 1 + 0 → vp_updL c (b + 0) x.toInt64 (b + j) = qshelf x j := by
  intro j hj
  obtain rfl : j = 0 := by omega
  exact pk_uLs
theorem zHF_p0 {k : Int32} {nn i : Nat} {hs : Nat → Int32} {gp : Nat → Int64} {hv w : Int32} (hk : k = 4) (h : hv = zHF k nn hs gp i) (e : w = hN nn hs (gp i)) : 31 * hv + w = zHF k nn hs gp (i + 1) := by
  show _ = 31 * zHF k nn hs gp i + _
  rw [if_pos hk, h, e]
theorem hN_m {nn : Nat} {hs : Nat → Int32} {v : Int64} (hn : nn ≤ 60) (h : v = (-1)) : (0 : Int32) = hN nn hs v := by
  have e : v.toInt32 = (-1) := by rw [h]; decide
  rw [hN, if_neg (by rw [isF_f hn (fun j hj q => z_nim1 (j := j) (by omega) (q.symm.trans e))]; exact Bool.false_ne_true)]
theorem zFO_n : ∀ n, n < 60 → zFO (nI n).toInt64 = nI n := by decide +kernel
theorem isF_lt {nn : Nat} {x : Int32} (h : x < 0) : isF nn x = false := by
  have : ¬ 0 ≤ x := Int32.not_le.mpr h
  simp [isF, this]
theorem isF_ge {nn : Nat} {x : Int32} (h : nI nn ≤ x) : isF nn x = false := by
  have : ¬ x < nI nn := Int32.not_lt.mpr h
  simp [isF, this]
theorem z_r60 {v : Int64} {nn : Nat} (hn : nn ≤ 60) (h : v = (-1) ∨ ∃ j9, j9 < nn ∧ v = lN j9) : v = (-1) ∨ ∃ j9, j9 < 60 ∧ v = lN j9 := h.elim Or.inl (fun ⟨j, hj, e⟩ => Or.inr ⟨j, by omega, e⟩)
/-- one bit -/
theorem z_and1 (a : Int32) : a &&& 1 = 0 ∨ a &&& 1 = 1 := by
  have h : (a &&& 1).toBitVec = a.toBitVec &&& 1#32 := rfl
  rw [BitVec.and_one_eq_setWidth_ofBool_getLsbD] at h
  cases q : a.toBitVec.getLsbD 0 with
  | false => exact Or.inl (Int32.toBitVec_inj.mp (by rw [h, q]; decide))
  | true => exact Or.inr (Int32.toBitVec_inj.mp (by rw [h, q]; decide))
theorem zks_m1 {x : Int32} (h : x < (-1)) : x < 0 ∧ ¬ x = (-1) := by
  rw [Int32.lt_iff_toInt_lt] at h
  have e1 : (-1 : Int32).toInt = -1 := by decide
  rw [e1] at h
  refine ⟨?_, fun q => ?_⟩
  · rw [Int32.lt_iff_toInt_lt]
    have e0 : (0 : Int32).toInt = 0 := by decide
    omega
  · rw [q, e1] at h
    omega
theorem zks_p {x : Int32} (h : ¬ x < (-1)) (h1 : ¬ x = (-1)) : ¬ x < 0 := by
  intro q
  rw [Int32.lt_iff_toInt_lt] at h q
  have e1 : (-1 : Int32).toInt = -1 := by decide
  have e0 : (0 : Int32).toInt = 0 := by decide
  exact h1 (Int32.toInt_inj.mp (by omega))
theorem zksA {g : Nat → Int32} {i : Nat} {s : Int32} (h : zks g i = some s) (c : g i < (-1)) : zks g (i + 1) = none := by
  have q := zks_m1 c
  simp only [zks, h, if_neg q.2, if_pos q.1]
theorem zksB {g : Nat → Int32} {i : Nat} {s : Int32} (h : zks g i = some s) (c0 : ¬ g i < (-1)) (c : 6 < g i) : zks g (i + 1) = none := by
  have q1 : ¬ g i = (-1) := fun e => by
    rw [e] at c
    exact absurd c (by decide)
  simp only [zks, h, if_neg q1, if_neg (zks_p c0 q1), if_pos c]
theorem zksC {g : Nat → Int32} {i : Nat} {s : Int32} (h : zks g i = some s) (c0 : ¬ g i < (-1)) (c : ¬ 6 < g i) (c1 : ¬ g i = (-1)) (c2 : (s >>> (g i &&& 31)) &&& 1 = 1) : zks g (i + 1) = none := by
  have q : ¬ (s >>> (g i &&& 31)) &&& 1 = 0 := fun e => by
    rw [e] at c2
    exact absurd c2 (by decide)
  simp only [zks, h, if_neg c1, if_neg (zks_p c0 c1), if_neg c, if_neg q]
theorem zksD {g : Nat → Int32} {i : Nat} {s : Int32} (h : zks g i = some s) (c : g i = (-1)) : zks g (i + 1) = some (s ||| 0) := by
  rw [Int32.or_zero]
  simp only [zks, h, if_pos c]
theorem zksE {g : Nat → Int32} {i : Nat} {s : Int32} (h : zks g i = some s) (c0 : ¬ g i < (-1)) (c : ¬ 6 < g i) (c1 : ¬ g i = (-1)) (c2 : ¬ (s >>> (g i &&& 31)) &&& 1 = 1) : zks g (i + 1) = some (s ||| (1 <<< (g i &&& 31))) := by
  have q := (z_and1 (s >>> (g i &&& 31))).resolve_right c2
  simp only [zks, h, if_neg c1, if_neg (zks_p c0 c1), if_neg c, if_pos q]
theorem z_t4 {x y z v : Int32} : ∀ {k : Nat}, k < 4 → (if nI k = 0 then x else if nI k = 1 then y else if nI k = 2 then z else v) = g4 x y z v k := by
  intro k hk
  rcases (show k = 0 ∨ k = 1 ∨ k = 2 ∨ k = 3 by omega) with rfl | rfl | rfl | rfl
  · rw [if_pos (by decide)]
    exact ((pk_un (by decide)).trans ((pk_un (by decide)).trans ((pk_un (by decide)).trans pk_us))).symm
  · rw [if_neg (by decide), if_pos (by decide)]
    exact ((pk_un (by decide)).trans ((pk_un (by decide)).trans pk_us)).symm
  · rw [if_neg (by decide), if_neg (by decide), if_pos (by decide)]
    exact ((pk_un (by decide)).trans pk_us).symm
  · rw [if_neg (by decide), if_neg (by decide), if_neg (by decide)]
    exact pk_us.symm
/-- the kinds of a family are told once each -/
theorem zbit1 : ∀ n, n < 128 → ∀ v, v < 7 → ∃ m, m < 128 ∧ nI n ||| (1 <<< (nI v &&& 31)) = nI m ∧ ¬ (nI m >>> (nI v &&& 31)) &&& 1 = 0 ∧ ∀ w, w < 7 → ¬ (nI n >>> (nI w &&& 31)) &&& 1 = 0 → ¬ (nI m >>> (nI w &&& 31)) &&& 1 = 0 := by
  have h : ∀ n, n < 128 → ∀ v, v < 7 → (n ||| 1 <<< v < 128 ∧ nI n ||| (1 <<< (nI v &&& 31)) = nI (n ||| 1 <<< v) ∧ ¬ (nI (n ||| 1 <<< v) >>> (nI v &&& 31)) &&& 1 = 0 ∧ ∀ w, w < 7 → ¬ (nI n >>> (nI w &&& 31)) &&& 1 = 0 → ¬ (nI (n ||| 1 <<< v) >>> (nI w &&& 31)) &&& 1 = 0) := by decide +kernel
  exact fun n hn v hv => ⟨_, h n hn v hv⟩
theorem zks_06 {x : Int32} (h1 : ¬ x < 0) (h2 : ¬ 6 < x) : ∃ v, v < 7 ∧ x = nI v := by
  rw [Int32.lt_iff_toInt_lt] at h1 h2
  have e0 : (0 : Int32).toInt = 0 := by decide
  have e6 : (6 : Int32).toInt = 6 := by decide
  rw [e0] at h1
  rw [e6] at h2
  exact vp_in_of (vp_in_iff.mpr ⟨by omega, by omega⟩) (by omega)
def zDis (s : Int32) (n : Nat) (g : Nat → Int32) : Prop := (∀ a, a < n → ∃ v, v < 7 ∧ g a = nI v ∧ ¬ (s >>> (nI v &&& 31)) &&& 1 = 0) ∧ ∀ a, a < n → ∀ b, b < a → ¬ g a = g b
theorem zks_dis (g : Nat → Int32) : ∀ (i : Nat) (s : Int32), zks g i = some s → (∃ n, n < 128 ∧ s = nI n) ∧ zDis s (zfn g i) (zfg g i)
  | 0, s, h => by
    have e : (0 : Int32) = s := Option.some.inj h
    subst e
    exact ⟨⟨0, by decide, by decide⟩, fun a ha => absurd ha (Nat.not_lt_zero _), fun a ha => absurd ha (Nat.not_lt_zero _)⟩
  | i + 1, s, h => by
    cases q : zks g i with
    | none =>
      simp only [zks, q] at h
      cases h
    | some s0 =>
      obtain ⟨⟨n, hn, e0⟩, hd1, hd2⟩ := zks_dis g i s0 q
      simp only [zks, q] at h
      by_cases c1 : g i = (-1)
      · rw [if_pos c1] at h
        have e := Option.some.inj h
        subst e
        rw [zfn, zfg, if_pos c1, if_pos c1]
        exact ⟨⟨n, hn, e0⟩, hd1, hd2⟩
      · rw [if_neg c1] at h
        by_cases c2 : g i < 0
        · rw [if_pos c2] at h
          cases h
        · rw [if_neg c2] at h
          by_cases c3 : 6 < g i
          · rw [if_pos c3] at h
            cases h
          · rw [if_neg c3] at h
            by_cases c4 : (s0 >>> (g i &&& 31)) &&& 1 = 0
            · rw [if_pos c4] at h
              have e := Option.some.inj h
              obtain ⟨v, hv, ev⟩ := zks_06 c2 c3
              obtain ⟨m, hm, em, b1, b2⟩ := zbit1 n hn v hv
              have es : s = nI m := by rw [← e, e0, ev]; exact em
              subst es
              rw [zfn, zfg, if_neg c1, if_neg c1]
              refine ⟨⟨m, hm, rfl⟩, fun a ha => ?_, fun a ha b hb => ?_⟩
              · by_cases ea : a = zfn g i
                · subst ea
                  rw [pk_us]
                  exact ⟨v, hv, ev, b1⟩
                · rw [pk_un ea]
                  obtain ⟨w, hw, ew, bw⟩ := hd1 a (by omega)
                  exact ⟨w, hw, ew, b2 w hw (by rw [← e0]; exact bw)⟩
              · by_cases ea : a = zfn g i
                · subst ea
                  rw [pk_us, pk_un (by omega)]
                  intro eq
                  obtain ⟨w, hw, ew, bw⟩ := hd1 b hb
                  rw [eq, ew] at c4
                  exact bw c4
                · rw [pk_un ea, pk_un (by omega)]
                  exact hd2 a (by omega) b hb
            · rw [if_neg c4] at h
              cases h
theorem zfgM_1 {g gv : Nat → Int32} {i b : Nat} (h : ∀ j, j < zfn g i → gv (b + j) = zfg g i j) (c : ¬ g i = (-1)) : ∀ j, j < zfn g (i + 1) → upd gv (b + zfn g i) (g i) (b + j) = zfg g (i + 1) j := by
  intro j hj
  rw [zfn, if_neg c] at hj
  rw [zfg, if_neg c]
  by_cases e : j = zfn g i
  · subst e
    rw [pk_us, pk_us]
  · rw [pk_un (by omega), pk_un e]
    exact h j (by omega)
theorem zfgM_0 {g gv : Nat → Int32} {i b : Nat} (h : ∀ j, j < zfn g i → gv (b + j) = zfg g i j) (c : g i = (-1)) : ∀ j, j < zfn g (i + 1) → gv (b + j) = zfg g (i + 1) j := by
  intro j hj
  rw [zfn, if_pos c] at hj
  rw [zfg, if_pos c]
  exact h j hj
/-- families, told apart -/
def zFD (nf : Nat) (fz : Nat → Nat) (gq : Nat → Int32) : Prop := ∀ i, i < nf → ∀ a, a < fz i → ∀ b, b < a → ¬ gq (4 * i + a) = gq (4 * i + b)
theorem zFD_new {nf t : Nat} {fz : Nat → Nat} {gq gq1 G : Nat → Int32} (h : zFD nf fz gq) (hl : ∀ i, i < nf → fz i ≤ 4) (h1 : ∀ i, i < nf → ∀ j, j < 4 → gq1 (4 * i + j) = gq (4 * i + j)) (h2 : ∀ j, j < t → gq1 (4 * nf + j) = G j) (hd : ∀ a, a < t → ∀ b, b < a → ¬ G a = G b) : zFD (nf + 1) (va_up fz nf t) gq1 := by
  intro i hi a ha b hb
  by_cases e : i = nf
  · subst e
    rw [va_up_self] at ha
    rw [h2 a ha, h2 b (by omega)]
    exact hd a ha b hb
  · rw [va_up_ne _ _ e] at ha
    have := hl i (by omega)
    rw [h1 i (by omega) a (by omega), h1 i (by omega) b (by omega)]
    exact h i (by omega) a ha b hb
/-- the reference's way of a tag: the last of the figure's own kind -/
def zTR (g : Nat → Int32) (k : Int32) : Nat → Int32 × Int32
  | 0 => (-1, 0)
  | i + 1 => if g i = k then (nI i, 1) else if (zTR g k i).2 = 0 then (if g i = 1 then (if k = 2 then (nI i, 0) else zTR g k i) else zTR g k i) else zTR g k i
theorem zTR_TG {g : Nat → Int32} {k : Int32} : ∀ {z : Nat}, (∀ a, a < z → ∀ b, b < a → ¬ g a = g b) → (zTR g k z).1 = (zTG g k z).1 ∧ ((zTG g k z).2 = false → (zTR g k z).2 = 0) ∧ ((zTG g k z).2 = true → (zTR g k z).2 = 1 ∧ ∃ a, a < z ∧ g a = k)
  | 0, _ => ⟨rfl, fun _ => rfl, fun h => absurd h Bool.false_ne_true⟩
  | i + 1, hd => by
    obtain ⟨h1, h2, h3⟩ := zTR_TG (k := k) (z := i) (fun a ha b hb => hd a (by omega) b hb)
    by_cases ow : (zTG g k i).2 = true
    · obtain ⟨h4, a, ha, ea⟩ := h3 ow
      have hk : ¬ g i = k := fun q => hd i (by omega) a ha (q.trans ea.symm)
      have n0 : ¬ (zTR g k i).2 = 0 := by rw [h4]; decide
      rw [zTR, if_neg hk, if_neg n0, zTG, if_pos ow]
      exact ⟨h1, fun q => absurd (ow.symm.trans q) (by decide), fun _ => ⟨h4, a, by omega, ea⟩⟩
    · have of : (zTG g k i).2 = false := by
        cases q : (zTG g k i).2 with
        | false => rfl
        | true => exact absurd q ow
      have t0 := h2 of
      rw [zTR, zTG, if_neg ow]
      by_cases hk : g i = k
      · rw [if_pos hk, if_pos hk]
        exact ⟨rfl, fun q => absurd q.symm Bool.false_ne_true, fun _ => ⟨rfl, i, by omega, hk⟩⟩
      · rw [if_neg hk, if_neg hk, if_pos t0]
        by_cases o : isO k (g i) = true
        · have o2 : k = 2 ∧ g i = 1 := by
            simp [isO] at o
            rcases o with o | o
            · exact absurd o.symm hk
            · exact o
          rw [if_pos o, if_pos o2.2, if_pos o2.1]
          exact ⟨rfl, fun _ => rfl, fun q => absurd q Bool.false_ne_true⟩
        · have o2 : ¬ (g i = 1 ∧ k = 2) := fun q => o (by simp [isO, q.1, q.2])
          rw [if_neg o]
          have e : (if g i = 1 then (if k = 2 then (nI i, (0 : Int32)) else zTR g k i) else zTR g k i) = zTR g k i := by
            by_cases c1 : g i = 1
            · rw [if_pos c1, if_neg (fun c2 => o2 ⟨c1, c2⟩)]
            · rw [if_neg c1]
          rw [e]
          exact ⟨h1, fun _ => t0, fun q => absurd q ow⟩
theorem zTR_own {g : Nat → Int32} {k tg ow : Int32} {i : Nat} (h : zTR g k i = (tg, ow)) (c : g i = k) : zTR g k (i + 1) = (nI i, 1) := by rw [zTR, if_pos c]
theorem zTR_of {g : Nat → Int32} {k tg ow : Int32} {i : Nat} (h : zTR g k i = (tg, ow)) (c : ¬ g i = k) (c0 : ow = 0) (c1 : g i = 1) (c2 : k = 2) : zTR g k (i + 1) = (nI i, ow) := by rw [zTR, if_neg c, h, if_pos c0, if_pos c1, if_pos c2, c0]
theorem zTR_n2 {g : Nat → Int32} {k tg ow : Int32} {i : Nat} (h : zTR g k i = (tg, ow)) (c : ¬ g i = k) (c0 : ow = 0) (c1 : g i = 1) (c2 : ¬ k = 2) : zTR g k (i + 1) = (tg, ow) := by rw [zTR, if_neg c, h, if_pos c0, if_pos c1, if_neg c2]
theorem zTR_n1 {g : Nat → Int32} {k tg ow : Int32} {i : Nat} (h : zTR g k i = (tg, ow)) (c : ¬ g i = k) (c0 : ow = 0) (c1 : ¬ g i = 1) : zTR g k (i + 1) = (tg, ow) := by rw [zTR, if_neg c, h, if_pos c0, if_neg c1]
theorem zTR_n0 {g : Nat → Int32} {k tg ow : Int32} {i : Nat} (h : zTR g k i = (tg, ow)) (c : ¬ g i = k) (c0 : ¬ ow = 0) : zTR g k (i + 1) = (tg, ow) := by rw [zTR, if_neg c, h, if_neg c0]
