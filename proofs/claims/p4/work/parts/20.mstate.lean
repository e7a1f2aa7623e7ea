/-- what the reference's rows of figures keep to: as many cells as they say, pairs of earlier figures, steps that are not 0, rows of at most 12 items -/
def zMP1 (i : Nat) (k : Int32) (t : Nat) (gc : Nat → Int64) : Prop := t ≤ 15 ∧ (k = 4 → t = 2 ∧ (∃ j, j < i ∧ gc (16 * i) = lN j) ∧ (gc (16 * i + 1) = (-1) ∨ ∃ j, j < i ∧ gc (16 * i + 1) = lN j)) ∧ (k = 2 → ¬ gc (16 * i + 2) = 0) ∧ (k = 5 → ∃ w, w ≤ 12 ∧ gc (16 * i) = lN w)
def zMP (nn : Nat) (gk gm : Nat → Int32) (gc : Nat → Int64) (ln : Nat → Nat) : Prop := ∀ i, i < nn → gm i = nI (ln i) ∧ zMP1 i (gk i) (ln i) gc
theorem zMP1_keep {i t : Nat} {k : Int32} {gc gc' : Nat → Int64} (h : zMP1 i k t gc) (hc : ∀ j, j < 16 → gc' (16 * i + j) = gc (16 * i + j)) : zMP1 i k t gc' := by
  obtain ⟨h1, h2, h3, h4⟩ := h
  have c0 : gc' (16 * i) = gc (16 * i) := hc 0 (by omega)
  refine ⟨h1, fun q => ?_, fun q => ?_, fun q => ?_⟩
  · obtain ⟨a, b, c⟩ := h2 q
    exact ⟨a, by rw [c0]; exact b, by rw [hc 1 (by omega)]; exact c⟩
  · rw [hc 2 (by omega)]
    exact h3 q
  · rw [c0]
    exact h4 q
theorem zMP_keep {nn : Nat} {gk gk' gm gm' : Nat → Int32} {gc gc' : Nat → Int64} {ln : Nat → Nat} (h : zMP nn gk gm gc ln) (hk : ∀ i, i < nn → gk' i = gk i) (hm : ∀ i, i < nn → gm' i = gm i) (hc : ∀ i, i < nn → ∀ j, j < 16 → gc' (16 * i + j) = gc (16 * i + j)) : zMP nn gk' gm' gc' ln := fun i hi => ⟨by rw [hm i hi]; exact (h i hi).1, by rw [hk i hi]; exact zMP1_keep (h i hi).2 (hc i hi)⟩
theorem zMP_new {nn t : Nat} {gk gm : Nat → Int32} {gc : Nat → Int64} {ln : Nat → Nat} (h : zMP nn gk gm gc ln) (hm : gm nn = nI t) (h1 : zMP1 nn (gk nn) t gc) : zMP (nn + 1) gk gm gc (va_up ln nn t) := by
  intro i hi
  by_cases e : i = nn
  · subst e
    rw [va_up_self]
    exact ⟨hm, h1⟩
  · rw [va_up_ne _ _ e]
    exact h i (by omega)
theorem z_ce (j i : Nat) : 16 * nI j + nI i = nI (16 * j + i) := by
  have e : (16 : Int32) * nI j = nI (16 * j) := pk_mul 16 j
  rw [e, nI_add]
theorem z_c4 (j i : Nat) : 4 * nI j + nI i = nI (4 * j + i) := by
  have e : (4 : Int32) * nI j = nI (4 * j) := pk_mul 4 j
  rw [e, nI_add]
theorem z_ref {gk gm : Nat → Int32} {gc : Nat → Int64} {ln : Nat → Nat} {nn i k : Nat} (h : zMP nn gk gm gc ln) (hi : i < nn) (hn : nn ≤ 60) (h4 : gk i = 4) (hk : k < ln i) : gc (16 * i + k) = (-1) ∨ ∃ j, j < 60 ∧ gc (16 * i + k) = lN j := by
  obtain ⟨-, -, h2, -⟩ := h i hi
  obtain ⟨a, ⟨j, hj, e0⟩, c⟩ := h2 h4
  rcases (show k = 0 ∨ k = 1 by omega) with rfl | rfl
  · exact Or.inr ⟨j, by omega, e0⟩
  · rcases c with c | ⟨j2, hj2, e1⟩
    · exact Or.inl c
    · exact Or.inr ⟨j2, by omega, e1⟩
theorem z_m1L {j : Nat} (hj : j < 2 ^ 31) : ¬ lN j = (-1) := by
  intro h
  have h2 : (lN j).toInt = (-1 : Int64).toInt := by rw [h]
  rw [lN_toInt hj] at h2
  have e1 : (-1 : Int64).toInt = -1 := by decide
  rw [e1] at h2
  omega
theorem zMP1_of {i t : Nat} {k : Int32} {gc : Nat → Int64} (ht : t ≤ 15) (h4 : ¬ k = 4) (h2 : ¬ k = 2) (h5 : ¬ k = 5) : zMP1 i k t gc := ⟨ht, fun h => absurd h h4, fun h => absurd h h2, fun h => absurd h h5⟩
/-- the constants' places: each enumeration's places are told once each, from 0 on -/
def zME (nc : Nat) (ge gp : Nat → Int32) (sq : Nat → Nat) : Prop := (∀ c, c < nc → ∃ e, e < 4 ∧ ge c = nI e) ∧ (∀ c, c < nc → gp c = (-1) ∨ ∃ p, p < nc ∧ gp c = nI p ∧ ∀ e, e < 4 → ge c = nI e → p < sq e) ∧ (∀ e, e < 4 → ∀ p, p < sq e → ∃ c, c < nc ∧ ge c = nI e ∧ gp c = nI p) ∧ (∀ c, c < nc → ∀ d, d < nc → ge c = ge d → gp c = gp d → ¬ gp c = (-1) → c = d) ∧ ∀ e, e < 4 → sq e ≤ nc
theorem z_cr {x : Int32} {j : Nat} (hj : j < 2 ^ 31) (h : x = nI j) : x.toInt64 = lN j := by rw [h]; exact nI_l hj
theorem z_m64 : (-1 : Int32).toInt64 = (-1 : Int64) := by decide
