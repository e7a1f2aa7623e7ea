/-- an object of the class, in any state that calls can bring about -/
def zIX (cy : Nat → ClassId) (f : zM) (o : Nat) (fa : Nat) (fi : Nat) (nu : Nat) (fm : Nat) (co : Nat) (en : Nat) (ke : Nat) (ev : Nat) (al : Nat) (ra : Nat) (kn : Nat) (vq : Nat) (ge : Nat → Option Nat) (ea : Nat → Nat) (ma : Nat → Nat) (u1 : Int32) (u2 : Int32) (u3 : Int32) (gv : Nat → Int32) (nl : Nat) (gu : Nat → Int32) (nn : Nat) (ga : Nat → Option Nat) (gr : Nat → Option Nat) (fg : Nat → Nat) (pt : Nat → Nat) (kd : Nat → Int32) (ln : Nat → Nat) (pp : Nat → Nat → Int64) (wg : Nat → Int64) (wd : Nat → Int32) (hs : Nat → Int32) (bf : Nat → Int32) (nf : Nat) (gf : Nat → Option Nat) (fq : Nat → Nat) (fk : Nat → Nat) (fz : Nat → Nat) (fc : Nat → Nat → Int32) (nc : Nat) (gc : Nat → Option Nat) (cn : Nat → Nat) (ce : Nat → Int32) (cm : Nat → Int32) (sq : Nat → Nat) (mb : Nat → Nat → Int32) (ks : Nat) (kk : Nat → Int32) (kv : Nat → Int32) (lk : Int64) : Prop := f o = some (.inr (7, [.ref fa, .ref fi, .ref nu, .int (nI nl), .ref fm, .int (nI nf), .ref co, .int (nI nc), .ref en, .ref ke, .long lk])) ∧ f fa = some (.inr (2, [.int u1, .int u2, .int u3, .ref ev])) ∧ f ev = some (.inl (cy 0, 8, .inl gv)) ∧ f fi = some (.inr (5, [.ref al, .ref ra, .int (nI nn)])) ∧ f al = some (.inl (cy 3, 60, .inr (.inr (.inr (.inr ga))))) ∧ f ra = some (.inl (cy 3, 60, .inr (.inr (.inr (.inr gr))))) ∧ f nu = some (.inl (cy 0, 12, .inl gu)) ∧ f fm = some (.inl (cy 4, 6, .inr (.inr (.inr (.inr gf))))) ∧ f co = some (.inl (cy 5, 60, .inr (.inr (.inr (.inr gc))))) ∧ f en = some (.inl (cy 6, 4, .inr (.inr (.inr (.inr ge))))) ∧ f ke = some (.inr (6, [.ref kn, .ref vq, .int (nI ks)])) ∧ f kn = some (.inl (cy 0, 40, .inl kk)) ∧ f vq = some (.inl (cy 0, 40, .inl kv)) ∧ (∀ i9 : Nat, i9 < nn → f (fg i9) = some (.inr (4, [.int (kd i9), .ref (pt i9), .long (wg i9), .int (wd i9), .int (nI i9), .int (hs i9), .int (bf i9)]))) ∧ (∀ i9 : Nat, i9 < nn → f (pt i9) = some (.inl (cy 1, (ln i9), .inr (.inl (pp i9))))) ∧ (∀ i9 : Nat, i9 < nf → f (fq i9) = some (.inr (3, [.ref (fk i9), .int (nI (fz i9))]))) ∧ (∀ i9 : Nat, i9 < nf → f (fk i9) = some (.inl (cy 0, 4, .inl (fc i9)))) ∧ (∀ i9 : Nat, i9 < nc → f (cn i9) = some (.inr (0, [.int (ce i9), .int (cm i9)]))) ∧ (∀ i9 : Nat, i9 < 4 → f (ea i9) = some (.inr (1, [.ref (ma i9), .int (nI (sq i9))]))) ∧ (∀ i9 : Nat, i9 < 4 → f (ma i9) = some (.inl (cy 0, 60, .inl (mb i9)))) ∧ (nn ≤ 60) ∧ (nl ≤ 12) ∧ (nf ≤ 6) ∧ (nc ≤ 60) ∧ (ks ≤ 40) ∧ (∀ i, i < nn → ga i = some (fg i)) ∧ (∀ k, k < nn → ∃ j, j < nn ∧ gr k = some (fg j)) ∧ (∀ i, i < nn → ln i ≤ 15) ∧ (∀ i, i < nn → kd i = 5 → 3 ≤ ln i) ∧ (∀ i, i < nn → kd i = 4 → 2 ≤ ln i) ∧ (∀ i, i < nn → ∀ j, j < nn → fg i = fg j → i = j) ∧ (∀ i, i < nn → ∀ j, j < nn → pt i = pt j → i = j) ∧ (al ≠ ra) ∧ (∀ i, i < nf → gf i = some (fq i)) ∧ (∀ i, i < nf → fz i ≤ 4) ∧ (∀ i, i < nc → gc i = some (cn i)) ∧ (∀ j, j < 4 → ge j = some (ea j)) ∧ (∀ j, j < 4 → sq j ≤ nc) ∧ (∀ i, i < 4 → ∀ j, j < 4 → ea i = ea j → i = j) ∧ (∀ i, i < 4 → ∀ j, j < 4 → ma i = ma j → i = j) ∧ (kn ≠ vq) ∧ (co ≠ al) ∧ (co ≠ ra) ∧ (∃ k, k < 2147483647 ∧ lk = lN k)
theorem z_j2 (c : Nat → Int64) (a b : Int64) : ∀ j, j < 2 → vp_updL (vp_updL c 0 a) 1 b j = q2 a b j := fun j9 h9 => by
  rcases (show j9 = 0 ∨ j9 = 1 by omega) with rfl | rfl
  · exact (pk_uLn (by decide)).trans pk_uLs
  · exact pk_uLs
theorem z_j3 (c : Nat → Int64) (a b d : Int64) : ∀ j, j < 3 → vp_updL (vp_updL (vp_updL c 0 a) 1 b) 2 d j = q3 a b d j := fun j9 h9 => by
  rcases (show j9 = 0 ∨ j9 = 1 ∨ j9 = 2 by omega) with rfl | rfl | rfl
  · exact (pk_uLn (by decide)).trans ((pk_uLn (by decide)).trans pk_uLs)
  · exact (pk_uLn (by decide)).trans pk_uLs
  · exact pk_uLs
theorem z_m1i : (-1 : Int32).toInt64 = (-1 : Int64) := by decide
theorem z_crG {x : Int32} {j : Nat} (hj : j < 2 ^ 31) (h : x = nI j) : x.toInt64 = lN j := by rw [h]; exact nI_l hj
theorem zrow_0 {nl : Nat} {gu : Nat → Int32} {x y : Int32} {gp : Nat → Int64} (h0 : gp 0 = x.toInt64) (h1 : gp 1 = y.toInt64) (h2 : gp 2 = (qlaid nl gu y).toInt64) : ∀ j, j < 3 + 0 → gp j = qrow nl gu x y j := by
  intro j hj
  rcases (show j = 0 ∨ j = 1 ∨ j = 2 by omega) with rfl | rfl | rfl
  · exact h0
  · exact h1
  · exact h2
theorem zrow_at (nl : Nat) (gu : Nat → Int32) (x y : Int32) (i : Nat) : qrow nl gu x y (3 + i) = (qlaid nl gu (nI i)).toInt64 := by
  rw [qrow, if_neg (by omega), if_neg (by omega), if_neg (by omega), show 3 + i - 3 = i by omega]
theorem zrow_1 {nl i : Nat} {gu : Nat → Int32} {x y : Int32} {gp : Nat → Int64} (h : ∀ j, j < 3 + i → gp j = qrow nl gu x y j) : ∀ j, j < 3 + (i + 1) → vp_updL gp (3 + i) (qlaid nl gu (nI i)).toInt64 j = qrow nl gu x y j := by
  intro j hj
  by_cases e : j = 3 + i
  · subst e
    rw [pk_uLs, zrow_at]
  · rw [pk_uLn e]
    exact h j (by omega)
theorem zshelf_0 {x : Int32} {gp : Nat → Int64} (h0 : gp 0 = x.toInt64) : ∀ j, j < 1 → gp j = qshelf x j := by
  intro j hj
  obtain rfl : j = 0 := by omega
  exact h0
theorem zshelf_1 {x : Int32} {i : Nat} {gp : Nat → Int64} (hi : 1 ≤ i) (h : ∀ j, j < i → gp j = qshelf x j) : ∀ j, j < i + 1 → vp_updL gp i (-1) j = qshelf x j := by
  intro j hj
  by_cases e : j = i
  · subst e
    rw [pk_uLs, qshelf, if_neg (by omega)]
  · rw [pk_uLn e]
    exact h j (by omega)
theorem isP_t {t : Nat} {y : Int32} (h : ¬ (if y < 0 then (0 : Int32) else if nI t - 1 ≤ y then 0 else 1) = 0) : isP t y = true := by
  by_cases h1 : y < 0
  · exact absurd (by rw [if_pos h1]) h
  · by_cases h2 : nI t - 1 ≤ y
    · exact absurd (by rw [if_neg h1, if_pos h2]) h
    · simp only [isP, h1, h2, decide_false, Bool.not_false, Bool.and_self]
theorem isP_f {t : Nat} {y : Int32} (h : (if y < 0 then (0 : Int32) else if nI t - 1 ≤ y then 0 else 1) = 0) : isP t y = false := by
  by_cases h1 : y < 0
  · simp only [isP, h1, decide_true, Bool.not_true, Bool.false_and]
  · by_cases h2 : nI t - 1 ≤ y
    · simp only [isP, h2, decide_true, Bool.not_true, Bool.and_false]
    · rw [if_neg h1, if_neg h2] at h
      exact absurd h (by decide)
theorem isOf_t {k a : Int32} (h : ¬ (if k = a ∨ (k = 2 ∧ a = 1) then (1 : Int32) else 0) = 0) : k = a ∨ (k = 2 ∧ a = 1) := by
  by_cases h1 : k = a ∨ (k = 2 ∧ a = 1)
  · exact h1
  · exact absurd (by rw [if_neg h1]) h
theorem isOf_f {k a : Int32} (h : (if k = a ∨ (k = 2 ∧ a = 1) then (1 : Int32) else 0) = 0) : ¬ (k = a ∨ (k = 2 ∧ a = 1)) := by
  intro h1
  rw [if_pos h1] at h
  exact absurd h (by decide)
/-- the chain of the random numbers -/
def zLN (l : Int64) : Nat := l.toInt.toNat
def zDR (l : Int64) : Int64 := lN (zLN l * 48271 % 2147483647)
theorem zLN_l {a : Nat} (h : a < 2147483647) : zLN (lN a) = a := by
  rw [zLN, lN_toInt (by omega)]
  omega
theorem zDR_l {a : Nat} (h : a < 2147483647) : zDR (lN a) = lN (a * 48271 % 2147483647) := by rw [zDR, zLN_l h]
theorem zDR_n {a : Nat} (h : a < 2147483647) : zLN (zDR (lN a)) = a * 48271 % 2147483647 := by
  rw [zDR_l h]
  exact zLN_l (Nat.mod_lt _ (by omega))
/-- a name among the members of an enumeration -/
def zMN (z nc : Nat) (g cm : Nat → Int32) (y r : Int32) : Prop := (∃ i, i < z ∧ ∃ c, c < nc ∧ g i = nI c ∧ cm c = y ∧ r = nI c) ∨ (r = (-1) ∧ ∀ i, i < z → ∀ c, c < nc → g i = nI c → ¬ cm c = y)
/-- a name among the constants that are not gone -/
def zCO (nc : Nat) (ge gn gp : Nat → Int32) (x y r : Int32) : Prop := (∃ c, c < nc ∧ r = nI c ∧ ge c = x ∧ gn c = y ∧ ¬ gp c = (-1)) ∨ (r = (-1) ∧ ∀ c, c < nc → ¬ (ge c = x ∧ gn c = y ∧ ¬ gp c = (-1)))
def zE4 (x : Int32) : Prop := 0 ≤ x ∧ x < 4
def zNA (y : Int32) : Prop := 0 ≤ y ∧ y < 10000
def zXC (x y : Int32) (nc : Nat) (cm : Nat → Int32) (sq : Nat → Nat) (mb : Nat → Nat → Int32) (r : Int32) : Prop := (∃ e, e < 4 ∧ x = nI e ∧ zNA y ∧ zMN (sq e) nc (mb e) cm y (-1) ∧ r = (if nc < 60 then nI nc else (-3))) ∨ (r = (-2) ∧ (¬ zE4 x ∨ ¬ zNA y ∨ ∃ e, e < 4 ∧ x = nI e ∧ ∃ m, ¬ m = (-1) ∧ zMN (sq e) nc (mb e) cm y m))
def zYC (x y : Int32) (nc : Nat) (ge gn gp : Nat → Int32) (r : Int32) : Prop := (∃ e, e < 4 ∧ x = nI e ∧ zNA y ∧ zCO nc ge gn gp x y (-1) ∧ r = (if nc < 60 then nI nc else (-3))) ∨ (r = (-2) ∧ (¬ zE4 x ∨ ¬ zNA y ∨ ∃ e, e < 4 ∧ x = nI e ∧ ∃ m, ¬ m = (-1) ∧ zCO nc ge gn gp x y m))
def zXN (x y : Int32) (nc : Nat) (cm : Nat → Int32) (sq : Nat → Nat) (mb : Nat → Nat → Int32) (r : Int32) : Prop := (∃ e, e < 4 ∧ x = nI e ∧ ∃ m, zMN (sq e) nc (mb e) cm y m ∧ r = (if m = (-1) then (-4) else m)) ∨ (r = (-2) ∧ ¬ zE4 x)
def zYN (x y : Int32) (nc : Nat) (ge gn gp : Nat → Int32) (r : Int32) : Prop := (∃ e, e < 4 ∧ x = nI e ∧ ∃ m, zCO nc ge gn gp x y m ∧ r = (if m = (-1) then (-4) else m)) ∨ (r = (-2) ∧ ¬ zE4 x)
def zPO (z : Nat) (g : Nat → Int32) (x r : Int32) : Prop := (∃ k, k < z ∧ r = nI k ∧ g k = x ∧ ∀ j, j < k → g j ≠ x) ∨ (r = (-1) ∧ ∀ k, k < z → g k ≠ x)
def zXD (nc : Nat) (x : Int32) (ce : Nat → Int32) (sq : Nat → Nat) (mb : Nat → Nat → Int32) (r : Int32) (sq1 : Nat → Nat) (mb1 : Nat → Nat → Int32) : Prop := (∃ jc, jc < nc ∧ x = nI jc ∧ ∃ je, je < 4 ∧ ce jc = nI je ∧ ∃ k, k < sq je ∧ mb je k = x ∧ (∀ j, j < k → mb je j ≠ x) ∧ r = nI (sq je - 1) ∧ sq1 = va_up sq je (sq je - 1) ∧ ∃ g1, mb1 = va_up mb je g1 ∧ ∀ i, g1 i = if k ≤ i ∧ i < sq je - 1 then mb je (i + 1) else mb je i) ∨ (r = (-2) ∧ sq1 = sq ∧ mb1 = mb ∧ ∀ jc, jc < nc → x = nI jc → ∀ je, je < 4 → ce jc = nI je → ∀ k, k < sq je → mb je k ≠ x)
def zYD (nc : Nat) (x : Int32) (ge gp : Nat → Int32) (sq : Nat → Nat) (r : Int32) (sq1 : Nat → Nat) (gp1 : Nat → Int32) : Prop := (∃ jc, jc < nc ∧ x = nI jc ∧ ∃ je, je < 4 ∧ ge jc = nI je ∧ ∃ pj, pj < sq je ∧ pj < nc ∧ gp jc = nI pj ∧ r = nI (sq je - 1) ∧ sq1 = va_up sq je (sq je - 1) ∧ ∃ gv : Nat → Int32, (∀ i, gv i = if i < nc ∧ ge i = nI je ∧ gp jc < gp i then gp i - 1 else gp i) ∧ gp1 = upd gv jc (-1)) ∨ (r = (-2) ∧ sq1 = sq ∧ gp1 = gp ∧ ∀ jc, jc < nc → x = nI jc → gp jc = (-1))
/-- members changed about -/
def zsw (g : Nat → Int32) (a b : Nat) : Nat → Int32 := upd (upd g a (g b)) b (g a)
def zSH : Nat → (Nat → Int32) → Int64 → (Nat → Int32) × Int64
  | 0, g, l => (g, l)
  | k + 1, g, l => if k = 0 then (g, l) else zSH k (zsw g k (zLN (zDR l) % (k + 1))) (zDR l)
def zSG (e nc : Nat) (ge : Nat → Int32) : Nat → (Nat → Int32) → Int64 → (Nat → Int32) → Int64 → Prop
  | 0, g, l, g1, l1 => g1 = g ∧ l1 = l
  | k + 1, g, l, g1, l1 => if k = 0 then g1 = g ∧ l1 = l else ∃ ca cb, ca < nc ∧ cb < nc ∧ ge ca = nI e ∧ ge cb = nI e ∧ g ca = nI k ∧ g cb = nI (zLN (zDR l) % (k + 1)) ∧ zSG e nc ge k (upd (upd g ca (nI (zLN (zDR l) % (k + 1)))) cb (if ca = cb then nI (zLN (zDR l) % (k + 1)) else nI k)) (zDR l) g1 l1
def zXR (x : Int32) (sq : Nat → Nat) (mb : Nat → Nat → Int32) (lk : Int64) (r : Int32) (mb1 : Nat → Nat → Int32) (lk1 : Int64) : Prop := (∃ e, e < 4 ∧ x = nI e ∧ r = nI (sq e) ∧ mb1 = va_up mb e (zSH (sq e) (mb e) lk).1 ∧ lk1 = (zSH (sq e) (mb e) lk).2) ∨ (¬ zE4 x ∧ r = (-2) ∧ mb1 = mb ∧ lk1 = lk)
def zYR (nc : Nat) (x : Int32) (ge gp : Nat → Int32) (sq : Nat → Nat) (lk : Int64) (r : Int32) (gp1 : Nat → Int32) (lk1 : Int64) : Prop := (∃ e, e < 4 ∧ x = nI e ∧ r = nI (sq e) ∧ zSG e nc ge (sq e) gp lk gp1 lk1) ∨ (¬ zE4 x ∧ r = (-2) ∧ gp1 = gp ∧ lk1 = lk)
def zXT (nc : Nat) (x y : Int32) (ce cm : Nat → Int32) (sq : Nat → Nat) (mb : Nat → Nat → Int32) (r : Int32) : Prop := (∃ jc, jc < nc ∧ x = nI jc ∧ ∃ je, je < 4 ∧ ce jc = nI je ∧ ∃ p, (y = 2 → zPO (sq je) (mb je) x p) ∧ r = (if y = 0 then ce jc else if y = 1 then cm jc else if y = 2 then p else (-2))) ∨ (r = (-2) ∧ ∀ jc, jc < nc → x = nI jc → ¬ zE4 (ce jc))
def zYT (nc : Nat) (x y : Int32) (ge gn gp : Nat → Int32) (r : Int32) : Prop := (∃ jc, jc < nc ∧ x = nI jc ∧ r = (if y = 0 then ge jc else if y = 1 then gn jc else if y = 2 then gp jc else (-2))) ∨ (r = (-2) ∧ ∀ jc, jc < nc → ¬ x = nI jc)
def zXP (x y : Int32) (sq : Nat → Nat) (mb : Nat → Nat → Int32) (r : Int32) : Prop := (∃ e, e < 4 ∧ x = nI e ∧ ((∃ k, k < sq e ∧ y = nI k ∧ r = mb e k) ∨ (0 ≤ y ∧ nI (sq e) ≤ y ∧ r = (-1)))) ∨ (r = (-2) ∧ (¬ zE4 x ∨ y < 0))
def zCA (nc : Nat) (ge gp : Nat → Int32) (x y r : Int32) : Prop := (∃ c, c < nc ∧ r = nI c ∧ ge c = x ∧ gp c = y) ∨ (r = (-1) ∧ ∀ c, c < nc → ¬ (ge c = x ∧ gp c = y))
def zYP (nc : Nat) (x y : Int32) (ge gp : Nat → Int32) (r : Int32) : Prop := (∃ e, e < 4 ∧ x = nI e ∧ 0 ≤ y ∧ zCA nc ge gp x y r) ∨ (r = (-2) ∧ (¬ zE4 x ∨ y < 0))
/-- keys -/
def zST (z : Nat) (g gv : Nat → Int32) (k v r : Int32) (z1 : Nat) (g1 gv1 : Nat → Int32) : Prop := (∃ i, i < z ∧ g i = k ∧ (∀ j, j < i → g j ≠ k) ∧ r = 1 ∧ z1 = z ∧ g1 = g ∧ gv1 = upd gv i v) ∨ ((∀ i, i < z → g i ≠ k) ∧ ((z < 40 ∧ r = 0 ∧ z1 = z + 1 ∧ g1 = upd g z k ∧ gv1 = upd gv z v) ∨ (¬ z < 40 ∧ r = (-3) ∧ z1 = z ∧ g1 = g ∧ gv1 = gv)))
def zXU (nc : Nat) (x y : Int32) (ce cm : Nat → Int32) (z : Nat) (g gv : Nat → Int32) (r : Int32) (z1 : Nat) (g1 gv1 : Nat → Int32) : Prop := (∃ jc, jc < nc ∧ x = nI jc ∧ zST z g gv (ce jc * 10000 + cm jc) y r z1 g1 gv1) ∨ ((∀ jc, jc < nc → ¬ x = nI jc) ∧ r = (-2) ∧ z1 = z ∧ g1 = g ∧ gv1 = gv)
def zKF (z : Nat) (g1 g2 : Nat → Int32) (a b : Int32) (k : Nat) : Prop := k ≤ z ∧ (∀ i, i < k → ¬ (g1 i = a ∧ g2 i = b)) ∧ (k < z → g1 k = a ∧ g2 k = b)
def zYU (nc : Nat) (x y : Int32) (ge gn : Nat → Int32) (z : Nat) (k1 k2 k3 : Nat → Int32) (r : Int32) (z1 : Nat) (l1 l2 l3 : Nat → Int32) : Prop := (∃ jc, jc < nc ∧ x = nI jc ∧ ∃ k, zKF z k1 k2 (ge jc) (gn jc) k ∧ ((k < 40 ∧ r = (if k < z then 1 else 0) ∧ z1 = (if k < z then z else z + 1) ∧ l1 = upd k1 k (ge jc) ∧ l2 = upd k2 k (gn jc) ∧ l3 = upd k3 k y) ∨ (¬ k < 40 ∧ r = (-3) ∧ z1 = z ∧ l1 = k1 ∧ l2 = k2 ∧ l3 = k3))) ∨ ((∀ jc, jc < nc → ¬ x = nI jc) ∧ r = (-2) ∧ z1 = z ∧ l1 = k1 ∧ l2 = k2 ∧ l3 = k3)
def zVA (z : Nat) (g gv : Nat → Int32) (k r : Int32) : Prop := (∃ i, i < z ∧ g i = k ∧ (∀ j, j < i → g j ≠ k) ∧ r = gv i) ∨ ((∀ i, i < z → g i ≠ k) ∧ r = 0)
def zXG (nc : Nat) (x : Int32) (ce cm : Nat → Int32) (z : Nat) (g gv : Nat → Int32) (r : Int32) : Prop := (∃ jc, jc < nc ∧ x = nI jc ∧ zVA z g gv (ce jc * 10000 + cm jc) r) ∨ ((∀ jc, jc < nc → ¬ x = nI jc) ∧ r = 0)
def zYG (nc : Nat) (x : Int32) (ge gn : Nat → Int32) (z : Nat) (k1 k2 k3 : Nat → Int32) (r : Int32) : Prop := (∃ jc, jc < nc ∧ x = nI jc ∧ ∃ k, zKF z k1 k2 (ge jc) (gn jc) k ∧ r = (if k < z then k3 k else 0)) ∨ ((∀ jc, jc < nc → ¬ x = nI jc) ∧ r = 0)
def q_count (nn nl nf ks : Nat) (sq : Nat → Nat) (gv : Nat → Int32) (x : Int32) : Int32 := if x = 0 then nI nn else if x = 1 then nI nl else if x = 2 then nI nf else if x = 3 then nI (sq 0) + nI (sq 1) + nI (sq 2) + nI (sq 3) else if x = 4 then nI ks else if x < 11 then (-2) else if 17 < x then (-2) else gv (fI (x - 10))
theorem z_nE4 {x : Int32} (h : ¬ (0 ≤ x ∧ x < 4)) : ¬ zE4 x := h
theorem z_nim4 {j : Nat} (hj : j < 2 ^ 31) : ¬ nI j = (-4) := by
  intro h
  have h2 : (nI j).toInt = (-4 : Int32).toInt := by rw [h]
  rw [nI_toInt hj] at h2
  have e : (-4 : Int32).toInt = -4 := by decide
  omega
theorem zMN_n4 {z nc : Nat} {g cm : Nat → Int32} {y m : Int32} (h : zMN z nc g cm y m) (hn : nc ≤ 60) (h1 : ¬ m = (-1)) : ¬ m = (-4) := by
  rcases h with ⟨i, hi, c, hc, e1, e2, e3⟩ | ⟨h, -⟩
  · rw [e3]
    exact z_nim4 (by omega)
  · exact absurd h h1
theorem zCO_n4 {nc : Nat} {ge gn gp : Nat → Int32} {x y m : Int32} (h : zCO nc ge gn gp x y m) (hn : nc ≤ 60) (h1 : ¬ m = (-1)) : ¬ m = (-4) := by
  rcases h with ⟨c, hc, e3, -⟩ | ⟨h, -⟩
  · rw [e3]
    exact z_nim4 (by omega)
  · exact absurd h h1
theorem zMN_st {i nc : Nat} {g cm : Nat → Int32} {y : Int32} (h : ∀ j, j < i → ∀ c, c < nc → g j = nI c → ¬ cm c = y) (h1 : ∀ c, c < nc → g i = nI c → ¬ cm c = y) : ∀ j, j < i + 1 → ∀ c, c < nc → g j = nI c → ¬ cm c = y := by
  intro j hj
  by_cases e : j = i
  · subst e
    exact h1
  · exact h j (by omega)
theorem va_up_id {α : Type} (f : Nat → α) (k : Nat) : va_up f k (f k) = f := by
  funext i
  by_cases e : i = k
  · subst e
    rw [va_up_self]
  · rw [va_up_ne _ _ e]
theorem zSH_st {k : Nat} {g g' : Nat → Int32} {l : Int64} {S : (Nat → Int32) × Int64} (hk : 2 ≤ k) (h : S = zSH k g l) (e : g' = upd (upd g (k - 1) (g (zLN (zDR l) % k))) (zLN (zDR l) % k) (g (k - 1))) : S = zSH (k - 1) g' (zDR l) := by
  obtain ⟨k, rfl⟩ : ∃ k', k = k' + 1 := ⟨k - 1, by omega⟩
  rw [h, zSH, if_neg (by omega), e]
  rfl
theorem zSH_0 {k : Nat} {g : Nat → Int32} {l : Int64} (hk : k < 2) : zSH k g l = (g, l) := by
  rcases (show k = 0 ∨ k = 1 by omega) with rfl | rfl
  · rfl
  · rw [zSH, if_pos rfl]
theorem z_mbj {mb mbv : Nat → Nat → Int32} {j : Nat} {G : Nat → Int32} (h : ∀ i, ¬ i = j → mbv i = mb i) (e : mbv j = G) : mbv = va_up mb j G := by
  funext i
  by_cases q : i = j
  · subst q
    rw [va_up_self, e]
  · rw [va_up_ne _ _ q, h i q]
theorem z_k2n {k : Nat} (hk : k ≤ 60) (h : nI k - 1 < 1) : k < 2 := by
  rcases (show k < 2 ∨ 2 ≤ k by omega) with h2 | h2
  · exact h2
  · rw [show nI k - 1 = nI (k - 1) from pk_sub (a := k) (b := 1) (by omega)] at h
    have := (nI_ltI (a := k - 1) (b := 1) (by omega) (by omega)).mp h
    omega
def isS (x : Int32) : Bool := decide (1 ≤ x) && !decide (x = 2147483647)
theorem isS_1 {x : Int32} (h : x < 1) : isS x = false := by
  have : ¬ 1 ≤ x := Int32.not_le.mpr h
  simp [isS, this]
theorem isS_2 {x : Int32} (h : x = 2147483647) : isS x = false := by simp [isS, h]
theorem isS_t {x : Int32} (h1 : ¬ x < 1) (h2 : ¬ x = 2147483647) : isS x = true := by
  have : 1 ≤ x := Int32.not_lt.mp h1
  simp [isS, this, h2]
theorem z_cnt {x : Int32} {g : Nat → Int32} : (if x - 10 < 1 then (-2 : Int32) else if 7 < x - 10 then (-2) else g (x - 10).toNatClampNeg) = (if x < 11 then (-2) else if 17 < x then (-2) else g (fI (x - 10))) := by
  by_cases h1 : x - 10 < 1
  · rw [if_pos h1]
    by_cases h3 : x < 11
    · rw [if_pos h3]
    · rw [if_neg h3]
      by_cases h4 : 17 < x
      · rw [if_pos h4]
      · exfalso
        rw [Int32.lt_iff_toInt_lt] at h3 h4
        have e1 : (11 : Int32).toInt = 11 := by decide
        have e2 : (17 : Int32).toInt = 17 := by decide
        rw [e1] at h3
        rw [e2] at h4
        obtain ⟨j, hj, e⟩ := vp_in_of (x := x) (n := 18) (vp_in_iff.mpr ⟨by omega, by omega⟩) (by omega)
        rw [e, nI_toInt (by omega)] at h3
        rw [e, show nI j - 10 = nI (j - 10) from pk_sub (a := j) (b := 10) (by omega)] at h1
        have := (nI_ltI (a := j - 10) (b := 1) (by omega) (by omega)).mp h1
        omega
  · rw [if_neg h1]
    by_cases h2 : 7 < x - 10
    · rw [if_pos h2]
      by_cases h3 : x < 11
      · rw [if_pos h3]
      · rw [if_neg h3]
        by_cases h4 : 17 < x
        · rw [if_pos h4]
        · exfalso
          rw [Int32.lt_iff_toInt_lt] at h3 h4
          have e1 : (11 : Int32).toInt = 11 := by decide
          have e2 : (17 : Int32).toInt = 17 := by decide
          rw [e1] at h3
          rw [e2] at h4
          obtain ⟨j, hj, e⟩ := vp_in_of (x := x) (n := 18) (vp_in_iff.mpr ⟨by omega, by omega⟩) (by omega)
          rw [e, nI_toInt (by omega)] at h3
          rw [e, show nI j - 10 = nI (j - 10) from pk_sub (a := j) (b := 10) (by omega)] at h2
          have := (nI_ltI (a := 7) (b := j - 10) (by omega) (by omega)).mp h2
          omega
    · rw [if_neg h2]
      obtain ⟨j, hj, e⟩ := z_ixr h1 h2
      have ex : x = nI (j + 10) := by
        have e3 : x - 10 + 10 = x := Int32.sub_add_cancel x 10
        rw [← e3, e]
        exact nI_add j 10
      have j1 : 1 ≤ j := by
        rcases (show j = 0 ∨ 1 ≤ j by omega) with q | q
        · rw [e, q] at h1
          exact absurd (by decide) h1
        · exact q
      rw [if_neg (fun q => ?_), if_neg (fun q => ?_)]
      · rfl
      · rw [ex] at q
        have := (nI_ltI (a := 17) (b := j + 10) (by omega) (by omega)).mp q
        omega
      · rw [ex] at q
        have := (nI_ltI (a := j + 10) (b := 11) (by omega) (by omega)).mp q
        omega
theorem zSG_st {e nc ca cb k : Nat} {ge g g' g1 : Nat → Int32} {l l1 : Int64} (hk : 2 ≤ k) (hca : ca < nc) (hcb : cb < nc) (eca : ge ca = nI e) (ecb : ge cb = nI e) (pca : g ca = nI (k - 1)) (pcb : g cb = nI (zLN (zDR l) % k)) (eg : g' = upd (upd g ca (nI (zLN (zDR l) % k))) cb (if ca = cb then nI (zLN (zDR l) % k) else nI (k - 1))) (h : zSG e nc ge (k - 1) g' (zDR l) g1 l1) : zSG e nc ge k g l g1 l1 := by
  obtain ⟨k, rfl⟩ : ∃ k', k = k' + 1 := ⟨k - 1, by omega⟩
  subst eg
  rw [zSG, if_neg (by omega)]
  exact ⟨ca, cb, hca, hcb, eca, ecb, pca, pcb, h⟩
theorem zSG_0 {e nc k : Nat} {ge g : Nat → Int32} {l : Int64} (hk : k < 2) : zSG e nc ge k g l g l := by
  rcases (show k = 0 ∨ k = 1 by omega) with rfl | rfl
  · exact ⟨rfl, rfl⟩
  · rw [zSG, if_pos rfl]
    exact ⟨rfl, rfl⟩
theorem z_k2m {k : Nat} (hk : k ≤ 60) (h : nI k - 1 ≤ 0) : k < 2 := by
  rcases (show k < 2 ∨ 2 ≤ k by omega) with h2 | h2
  · exact h2
  · rw [show nI k - 1 = nI (k - 1) from pk_sub (a := k) (b := 1) (by omega)] at h
    have := (nI_leI (a := k - 1) (b := 0) (by omega) (by omega)).mp h
    omega
theorem q_count_g {nn nl nf ks : Nat} {sq : Nat → Nat} {gv : Nat → Int32} {x : Int32} (h : ¬ x < 11) (h2 : ¬ 17 < x) : q_count nn nl nf ks sq gv x = gv (fI (x - 10)) := by
  have n : ∀ k : Int32, k < 11 → ¬ x = k := fun k hk e => h (e ▸ hk)
  rw [q_count, if_neg (n 0 (by decide)), if_neg (n 1 (by decide)), if_neg (n 2 (by decide)), if_neg (n 3 (by decide)), if_neg (n 4 (by decide)), if_neg h, if_neg h2]
