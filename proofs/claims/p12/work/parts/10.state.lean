/-- an object of the class, in any state that calls can bring about -/
def zIX (cy : Nat → ClassId) (f : zM) (o : Nat) (fa : Nat) (fi : Nat) (nu : Nat) (fm : Nat) (co : Nat) (en : Nat) (ke : Nat) (ev : Nat) (al : Nat) (ra : Nat) (kn : Nat) (vq : Nat) (ge : Nat → Option Nat) (ea : Nat → Nat) (ma : Nat → Nat) (u1 : Int32) (u2 : Int32) (u3 : Int32) (gv : Nat → Int32) (nl : Nat) (gu : Nat → Int32) (nn : Nat) (ga : Nat → Option Nat) (gr : Nat → Option Nat) (fg : Nat → Nat) (pt : Nat → Nat) (kd : Nat → Int32) (ln : Nat → Nat) (pp : Nat → Nat → Int64) (wg : Nat → Int64) (wd : Nat → Int32) (hs : Nat → Int32) (bf : Nat → Int32) (nf : Nat) (gf : Nat → Option Nat) (fq : Nat → Nat) (fk : Nat → Nat) (fz : Nat → Nat) (fc : Nat → Nat → Int32) (nc : Nat) (gc : Nat → Option Nat) (cn : Nat → Nat) (ce : Nat → Int32) (cm : Nat → Int32) (sq : Nat → Nat) (mb : Nat → Nat → Int32) (ks : Nat) (kk : Nat → Int32) (kv : Nat → Int32) (lk : Int64) : Prop := f o = some (.inr (7, [.ref fa, .ref fi, .ref nu, .int (nI nl), .ref fm, .int (nI nf), .ref co, .int (nI nc), .ref en, .ref ke, .long lk])) ∧ f fa = some (.inr (2, [.int u1, .int u2, .int u3, .ref ev])) ∧ f ev = some (.inl (cy 0, 8, .inl gv)) ∧ f fi = some (.inr (5, [.ref al, .ref ra, .int (nI nn)])) ∧ f al = some (.inl (cy 3, 60, .inr (.inr (.inr (.inr ga))))) ∧ f ra = some (.inl (cy 3, 60, .inr (.inr (.inr (.inr gr))))) ∧ f nu = some (.inl (cy 0, 12, .inl gu)) ∧ f fm = some (.inl (cy 4, 6, .inr (.inr (.inr (.inr gf))))) ∧ f co = some (.inl (cy 5, 60, .inr (.inr (.inr (.inr gc))))) ∧ f en = some (.inl (cy 6, 4, .inr (.inr (.inr (.inr ge))))) ∧ f ke = some (.inr (6, [.ref kn, .ref vq, .int (nI ks)])) ∧ f kn = some (.inl (cy 0, 40, .inl kk)) ∧ f vq = some (.inl (cy 0, 40, .inl kv)) ∧ (∀ i9 : Nat, i9 < nn → f (fg i9) = some (.inr (4, [.int (kd i9), .ref (pt i9), .long (wg i9), .int (wd i9), .int (nI i9), .int (hs i9), .int (bf i9)]))) ∧ (∀ i9 : Nat, i9 < nn → f (pt i9) = some (.inl (cy 1, (ln i9), .inr (.inl (pp i9))))) ∧ (∀ i9 : Nat, i9 < nf → f (fq i9) = some (.inr (3, [.ref (fk i9), .int (nI (fz i9))]))) ∧ (∀ i9 : Nat, i9 < nf → f (fk i9) = some (.inl (cy 0, 4, .inl (fc i9)))) ∧ (∀ i9 : Nat, i9 < nc → f (cn i9) = some (.inr (0, [.int (ce i9), .int (cm i9)]))) ∧ (∀ i9 : Nat, i9 < 4 → f (ea i9) = some (.inr (1, [.ref (ma i9), .int (nI (sq i9))]))) ∧ (∀ i9 : Nat, i9 < 4 → f (ma i9) = some (.inl (cy 0, 60, .inl (mb i9)))) ∧ (nn ≤ 60) ∧ (nl ≤ 12) ∧ (nf ≤ 6) ∧ (nc ≤ 60) ∧ (ks ≤ 40) ∧ (∀ i, i < nn → ga i = some (fg i)) ∧ (∀ k, k < nn → ∃ j, j < nn ∧ gr k = some (fg j)) ∧ (∀ i, i < nn → ln i ≤ 15) ∧ (∀ i, i < nn → kd i = 5 → 3 ≤ ln i) ∧ (∀ i, i < nn → kd i = 4 → 2 ≤ ln i) ∧ (∀ i, i < nn → ∀ j, j < nn → fg i = fg j → i = j) ∧ (∀ i, i < nn → ∀ j, j < nn → pt i = pt j → i = j) ∧ (al ≠ ra) ∧ (∀ i, i < nf → gf i = some (fq i)) ∧ (∀ i, i < nf → fz i ≤ 4) ∧ (∀ i, i < nc → gc i = some (cn i)) ∧ (∀ j, j < 4 → ge j = some (ea j)) ∧ (∀ j, j < 4 → sq j ≤ nc) ∧ (∀ i, i < 4 → ∀ j, j < 4 → ea i = ea j → i = j) ∧ (∀ i, i < 4 → ∀ j, j < 4 → ma i = ma j → i = j) ∧ (kn ≠ vq) ∧ (co ≠ al) ∧ (co ≠ ra) ∧ (∃ k, k < 2147483647 ∧ lk = lN k)
theorem z_j2 (c : Nat → Int64) (a b : Int64) : ∀ j, j < 2 → vp_updL (vp_updL c 0 a) 1 b j = q2 a b j := fun j9 h9 => by
  rcases (show j9 = 0 ∨ j9 = 1 by omega) with rfl | rfl
  · exact (pk_uLn (by decide)).trans pk_uLs
  · exact pk_uLs
theorem z_j3 (c : Nat → Int64) (a b d : Int64) : ∀ j, j < 3 → vp_updL (vp_updL (vp_updL c 0 a) 1 b) 2 d j = q3 a b d j := fun j9 h9 => by
  rcases (show j9 = 0 ∨ j9 = 1 ∨ j9 = 2 by omega) with rfl | rfl | rfl
  · exact (pk_uLn (by decide)).trans ((pk_uLn (by decide)).trans pk_uLs)
  · exact (pk_uLn (by decide)).trans pk_uLs
  · exact pk_uLs
theorem z_m1i : (-1 : Int32).toInt64 = (-1 : Int64) := by decide
theorem z_crG {x : Int32} {j : Nat} (hj : j < 2 ^ 31) (h : x = nI j) : x.toInt64 = lN j := by rw [h]; exact nI_l hj
theorem zrow_0 {nl : Nat} {gu : Nat → Int32} {x y : Int32} {gp : Nat → Int64} (h0 : gp 0 = x.toInt64) (h1 : gp 1 = y.toInt64) (h2 : gp 2 = (qlaid nl gu y).toInt64) : ∀ j, j < 3 + 0 → gp j = qrow nl gu x y j := by
  intro j hj
  rcases (show j = 0 ∨ j = 1 ∨ j = 2 by omega) with rfl | rfl | rfl
  · exact h0
  · exact h1
  · exact h2
theorem zrow_at (nl : Nat) (gu : Nat → Int32) (x y : Int32) (i : Nat) : qrow nl gu x y (3 + i) = (qlaid nl gu (nI i)).toInt64 := by
  rw [qrow, if_neg (by omega), if_neg (by omega), if_neg (by omega), show 3 + i - 3 = i by omega]
theorem zrow_1 {nl i : Nat} {gu : Nat → Int32} {x y : Int32} {gp : Nat → Int64} (h : ∀ j, j < 3 + i → gp j = qrow nl gu x y j) : ∀ j, j < 3 + (i + 1) → vp_updL gp (3 + i) (qlaid nl gu (nI i)).toInt64 j = qrow nl gu x y j := by
  intro j hj
  by_cases e : j = 3 + i
  · subst e
    rw [pk_uLs, zrow_at]
  · rw [pk_uLn e]
    exact h j (by omega)
theorem zshelf_0 {x : Int32} {gp : Nat → Int64} (h0 : gp 0 = x.toInt64) : ∀ j, j < 1 → gp j = qshelf x j := by
  intro j hj
  obtain rfl : j = 0 := by omega
  exact h0
theorem zshelf_1 {x : Int32} {i : Nat} {gp : Nat → Int64} (hi : 1 ≤ i) (h : ∀ j, j < i → gp j = qshelf x j) : ∀ j, j < i + 1 → vp_updL gp i (-1) j = qshelf x j := by
  intro j hj
  by_cases e : j = i
  · subst e
    rw [pk_uLs, qshelf, if_neg (by omega)]
  · rw [pk_uLn e]
    exact h j (by omega)
theorem isP_t {t : Nat} {y : Int32} (h : ¬ (if y < 0 then (0 : Int32) else if nI t - 1 ≤ y then 0 else 1) = 0) : isP t y = true := by
  by_cases h1 : y < 0
  · exact absurd (by rw [if_pos h1]) h
  · by_cases h2 : nI t - 1 ≤ y
    · exact absurd (by rw [if_neg h1, if_pos h2]) h
    · simp only [isP, h1, h2, decide_false, Bool.not_false, Bool.and_self]
theorem isP_f {t : Nat} {y : Int32} (h : (if y < 0 then (0 : Int32) else if nI t - 1 ≤ y then 0 else 1) = 0) : isP t y = false := by
  by_cases h1 : y < 0
  · simp only [isP, h1, decide_true, Bool.not_true, Bool.false_and]
  · by_cases h2 : nI t - 1 ≤ y
    · simp only [isP, h2, decide_true, Bool.not_true, Bool.and_false]
    · rw [if_neg h1, if_neg h2] at h
      exact absurd h (by decide)
theorem isOf_t {k a : Int32} (h : ¬ (if k = a ∨ (k = 2 ∧ a = 1) then (1 : Int32) else 0) = 0) : k = a ∨ (k = 2 ∧ a = 1) := by
  by_cases h1 : k = a ∨ (k = 2 ∧ a = 1)
  · exact h1
  · exact absurd (by rw [if_neg h1]) h
theorem isOf_f {k a : Int32} (h : (if k = a ∨ (k = 2 ∧ a = 1) then (1 : Int32) else 0) = 0) : ¬ (k = a ∨ (k = 2 ∧ a = 1)) := by
  intro h1
  rw [if_pos h1] at h
  exact absurd h (by decide)
