/-- figures that are there, and those or none -/
def isF (nn : Nat) (x : Int32) : Bool := decide (0 ≤ x) && decide (x < nI nn)
def oF (nn : Nat) (x : Int32) : Bool := decide (x = (-1)) || isF nn x
def fI (x : Int32) : Nat := x.toNatClampNeg
/-- how many failures there were of each kind -/
def zEV (gv : Nat → Int32) (k : Int32) : Nat → Int32 := if k = 0 then gv else upd gv (fI k) (gv (fI k) + 1)
theorem zEV1 (gv : Nat → Int32) : zEV gv 1 = upd gv 1 (gv 1 + 1) := rfl
theorem zEV2 (gv : Nat → Int32) : zEV gv 2 = upd gv 2 (gv 2 + 1) := rfl
theorem zEV3 (gv : Nat → Int32) : zEV gv 3 = upd gv 3 (gv 3 + 1) := rfl
theorem zEV4 (gv : Nat → Int32) : zEV gv 4 = upd gv 4 (gv 4 + 1) := rfl
theorem zEV5 (gv : Nat → Int32) : zEV gv 5 = upd gv 5 (gv 5 + 1) := rfl
theorem zEV6 (gv : Nat → Int32) : zEV gv 6 = upd gv 6 (gv 6 + 1) := rfl
theorem zEV7 (gv : Nat → Int32) : zEV gv 7 = upd gv 7 (gv 7 + 1) := rfl
theorem zEV0 (gv : Nat → Int32) : zEV gv 0 = gv := rfl
/-- what a call answers, and the failure that it leaves: kind, part, number of its own -/
def q_point (nn : Nat) : Int32 × Int32 × Int32 × Int32 := if nn < 60 then (nI nn, 0, -1, 0) else (-3, 0, -1, 0)
def q_span (nn : Nat) (x y : Int32) : Int32 × Int32 × Int32 × Int32 := if nn < 60 then (if x ≤ y then (nI nn, 0, -1, 0) else (-4, 7, 1, 1)) else (-3, 0, -1, 0)
def q_wide (nn : Nat) (x y z : Int32) : Int32 × Int32 × Int32 × Int32 := if nn < 60 then (if x ≤ y then (if z = 0 then (-4, 6, 2, 0) else if y - x - (y - x) / z * z = 0 then (nI nn, 0, -1, 0) else (-4, 7, 2, 2)) else (-4, 7, 1, 1)) else (-3, 0, -1, 0)
def q_share (nn : Nat) (y : Int64) : Int32 × Int32 × Int32 × Int32 := if nn < 60 then (if y = 0 then (-4, 6, 1, 0) else (nI nn, 0, -1, 0)) else (-3, 0, -1, 0)
def q_pair (nn : Nat) (x y : Int32) : Int32 × Int32 × Int32 × Int32 := if oF nn x = true then (if oF nn y = true then (if nn < 60 then (if x = (-1) then (-4, 1, 0, 0) else (nI nn, 0, -1, 0)) else (-3, 0, -1, 0)) else (-2, 0, -1, 0)) else (-2, 0, -1, 0)
def q_row (nn : Nat) (x y : Int32) : Int32 × Int32 × Int32 × Int32 := if x ≤ 12 then (if nn < 60 then (if 0 ≤ x then (if y < 0 then (-4, 2, 1, 0) else if y < x then (nI nn, 0, -1, 0) else (-4, 2, 1, 0)) else (-4, 5, 0, 0)) else (-3, 0, -1, 0)) else (-2, 0, -1, 0)
def q_shelf (nn : Nat) (x : Int32) : Int32 × Int32 × Int32 × Int32 := if x ≤ 12 then (if nn < 60 then (if 0 ≤ x then (nI nn, 0, -1, 0) else (-4, 5, 0, 0)) else (-3, 0, -1, 0)) else (-2, 0, -1, 0)
/-- a place of a shelf with t - 1 places -/
def isP (t : Nat) (y : Int32) : Bool := !(decide (y < 0)) && !(decide (nI t - 1 ≤ y))
def q_set (nn : Nat) (kd : Nat → Int32) (ln : Nat → Nat) (wd : Nat → Int32) (x y z : Int32) : Int32 × Int32 × Int32 × Int32 := if isF nn x = true then (if oF nn z = true then (if kd (fI x) = 6 then (if z = (-1) ∨ kd (fI z) = 1 ∨ kd (fI z) = 2 then (if isP (ln (fI x)) y = true then (if wd (fI x) = 0 ∨ z = (-1) ∨ kd (fI z) = 2 then (1, 0, -1, 0) else (-4, 4, -1, 0)) else (-4, 2, -1, 0)) else (-4, 3, -1, 0)) else (-4, 3, -1, 0)) else (-2, 0, -1, 0)) else (-2, 0, -1, 0)
def q_at (nn : Nat) (kd : Nat → Int32) (ln : Nat → Nat) (cl : Nat → Nat → Int64) (x y : Int32) : Int32 × Int32 × Int32 × Int32 := if isF nn x = true then (if kd (fI x) = 6 then (if isP (ln (fI x)) y = true then ((cl (fI x) (1 + fI y)).toInt32, 0, -1, 0) else (-4, 2, -1, 0)) else (-4, 3, -1, 0)) else (-2, 0, -1, 0)
def q_kind (nn : Nat) (kd : Nat → Int32) (x : Int32) : Int32 := if isF nn x = true then kd (fI x) else (-2)
def q_parts (nn : Nat) (ln : Nat → Nat) (x : Int32) : Int32 := if isF nn x = true then nI (ln (fI x)) else (-2)
def q_part (nn : Nat) (ln : Nat → Nat) (cl : Nat → Nat → Int64) (x y : Int32) : Int64 := if isF nn x = true then (if y < 0 then (-3000000000000000000) else if nI (ln (fI x)) ≤ y then (-3000000000000000000) else cl (fI x) (fI y)) else (-3000000000000000000)
def q_hash (nn : Nat) (hs : Nat → Int32) (x : Int32) : Int32 := if isF nn x = true then hs (fI x) else 0
/-- the parts of figures -/
def zcl (b : Int64) : Int64 := if lg_cmp (b &&& 9223372036854775807) 9218868437227405312 ≤ 0 then b else 9221120237041090560
def q2 (a b : Int64) : Nat → Int64 := fun j => if j = 0 then a else b
def q3 (a b c : Int64) : Nat → Int64 := fun j => if j = 0 then a else if j = 1 then b else c
def qlaid (nl : Nat) (gu : Nat → Int32) (x : Int32) : Int32 := if x < 0 then 0 else if nI nl ≤ x then 0 else gu (fI x)
def qrow (nl : Nat) (gu : Nat → Int32) (x y : Int32) : Nat → Int64 := fun j => if j = 0 then x.toInt64 else if j = 1 then y.toInt64 else if j = 2 then (qlaid nl gu y).toInt64 else (qlaid nl gu (nI (j - 3))).toInt64
def qshelf (x : Int32) : Nat → Int64 := fun j => if j = 0 then x.toInt64 else (-1)
/-- hashes -/
def hN (nn : Nat) (hs : Nat → Int32) (v : Int64) : Int32 := if isF nn v.toInt32 = true then hs (fI v.toInt32) else 0
def zFO (v : Int64) : Int32 := v.toInt32 ^^^ ((v.toUInt64 >>> ((32 : Int32).toInt64.toUInt64 &&& Int64.toUInt64 63)).toInt64).toInt32
def zHF (k : Int32) (nn : Nat) (hs : Nat → Int32) (gp : Nat → Int64) : Nat → Int32
  | 0 => k
  | i + 1 => 31 * zHF k nn hs gp i + (if k = 4 then hN nn hs (gp i) else zFO (gp i))
def zHash (k : Int32) (nn t : Nat) (gp : Nat → Int64) (hs : Nat → Int32) : Int32 := if k = 6 then 31 * k + nI nn else zHF k nn hs gp t
theorem zHF_congr {k : Int32} {nn : Nat} {hs : Nat → Int32} {gp gp' : Nat → Int64} : ∀ {t : Nat}, (∀ j, j < t → gp j = gp' j) → zHF k nn hs gp t = zHF k nn hs gp' t
  | 0, _ => rfl
  | i + 1, h => by
    show 31 * zHF k nn hs gp i + _ = 31 * zHF k nn hs gp' i + _
    rw [zHF_congr (t := i) (fun j hj => h j (by omega)), h i (by omega)]
theorem zHash_congr {k : Int32} {nn t : Nat} {hs : Nat → Int32} {gp gp' : Nat → Int64} (h : ∀ j, j < t → gp j = gp' j) : zHash k nn t gp hs = zHash k nn t gp' hs := by
  unfold zHash
  rw [zHF_congr h]
/-- parts, behind a making that went through or didn't: the class's, the reference's; and both -/
def zPP (nn : Nat) (ok : Prop) (t : Nat) (G : Nat → Int64) (pp pp1 : Nat → Nat → Int64) : Prop := (∀ i, i < nn → pp1 i = pp i) ∧ (ok → ∀ j, j < t → pp1 nn j = G j)
def zGC (nn : Nat) (ok : Prop) (t : Nat) (G : Nat → Int64) (gc gc1 : Nat → Int64) : Prop := (∀ i, i < nn → ∀ j, j < 16 → gc1 (16 * i + j) = gc (16 * i + j)) ∧ (ok → ∀ j, j < t → gc1 (16 * nn + j) = G j)
theorem zPP_new {nn t : Nat} {ok : Prop} {G gp : Nat → Int64} {pp : Nat → Nat → Int64} (h : ∀ j, j < t → gp j = G j) : zPP nn ok t G pp (va_up pp nn gp) := ⟨fun i hi => va_up_ne _ _ (by omega), fun _ j hj => by rw [va_up_self]; exact h j hj⟩
theorem zPP_no {nn t : Nat} {ok : Prop} {G : Nat → Int64} {pp : Nat → Nat → Int64} (h : ¬ ok) : zPP nn ok t G pp pp := ⟨fun i hi => rfl, fun q => absurd q h⟩
theorem zGC_no {nn t : Nat} {ok : Prop} {G : Nat → Int64} {gc : Nat → Int64} (h : ¬ ok) : zGC nn ok t G gc gc := ⟨fun i hi j hj => rfl, fun q => absurd q h⟩
/-- both keep the same parts -/
def zPC (nn : Nat) (ln : Nat → Nat) (pp : Nat → Nat → Int64) (gc : Nat → Int64) : Prop := ∀ i, i < nn → ∀ j, j < ln i → gc (16 * i + j) = pp i j
theorem zPC_new {nn t : Nat} {G : Nat → Int64} {ln : Nat → Nat} {pp pp1 : Nat → Nat → Int64} {gc gc1 : Nat → Int64} {r : Int32} (h : zPC nn ln pp gc) (hl : ∀ i, i < nn → ln i ≤ 15) (h1 : zPP nn (0 ≤ r) t G pp pp1) (h2 : zGC nn (0 ≤ r) t G gc gc1) : zPC (if 0 ≤ r then nn + 1 else nn) (if 0 ≤ r then va_up ln nn t else ln) pp1 gc1 := by
  intro i hi j hj
  by_cases hr : 0 ≤ r
  · rw [if_pos hr] at hi hj
    by_cases e : i = nn
    · subst e
      rw [va_up_self] at hj
      rw [h1.2 hr j hj, h2.2 hr j hj]
    · rw [va_up_ne _ _ e] at hj
      have := hl i (by omega)
      rw [h1.1 i (by omega), h2.1 i (by omega) j (by omega)]
      exact h i (by omega) j hj
  · rw [if_neg hr] at hi hj
    have := hl i hi
    rw [h1.1 i hi, h2.1 i hi j (by omega)]
    exact h i hi j hj
theorem zPC_set {nn ja jk : Nat} {ln : Nat → Nat} {pp : Nat → Nat → Int64} {gc : Nat → Int64} {v : Int64} (h : zPC nn ln pp gc) (hl : ∀ i, i < nn → ln i ≤ 15) (hk : 1 + jk < 16) : zPC nn ln (va_up pp ja (vp_updL (pp ja) (1 + jk) v)) (vp_updL gc (16 * ja + 1 + jk) v) := by
  intro i hi j hj
  have := hl i hi
  by_cases e : i = ja
  · subst e
    rw [va_up_self]
    by_cases e2 : j = 1 + jk
    · subst e2
      rw [show 16 * i + (1 + jk) = 16 * i + 1 + jk by omega, pk_uLs, pk_uLs]
    · rw [pk_uLn e2, pk_uLn (by omega)]
      exact h i hi j hj
  · rw [va_up_ne _ _ e, pk_uLn (by omega)]
    exact h i hi j hj
/-- the kinds that a family tells, in their order -/
def zfn (g : Nat → Int32) : Nat → Nat
  | 0 => 0
  | i + 1 => if g i = (-1) then zfn g i else zfn g i + 1
def zfg (g : Nat → Int32) : Nat → Nat → Int32
  | 0 => fun _ => 0
  | i + 1 => if g i = (-1) then zfg g i else upd (zfg g i) (zfn g i) (g i)
theorem zfn_le (g : Nat → Int32) : ∀ i, zfn g i ≤ i
  | 0 => Nat.le_refl 0
  | i + 1 => by
    have := zfn_le g i
    show (if g i = (-1) then zfn g i else zfn g i + 1) ≤ i + 1
    split <;> omega
def g4 (x y z v : Int32) : Nat → Int32 := upd (upd (upd (upd (fun _ => 0) 0 x) 1 y) 2 z) 3 v
def q_family (nf : Nat) (b : Bool) : Int32 := if b = true then (if nf < 6 then nI nf else (-3)) else (-2)
def zFC (nf : Nat) (ok : Prop) (t : Nat) (G : Nat → Int32) (fc fc1 : Nat → Nat → Int32) : Prop := (∀ i, i < nf → fc1 i = fc i) ∧ (ok → ∀ j, j < t → fc1 nf j = G j)
def zGQ (nf : Nat) (ok : Prop) (t : Nat) (G : Nat → Int32) (gq gq1 : Nat → Int32) : Prop := (∀ i, i < nf → ∀ j, j < 4 → gq1 (4 * i + j) = gq (4 * i + j)) ∧ (ok → ∀ j, j < t → gq1 (4 * nf + j) = G j)
def zFF (nf : Nat) (fz : Nat → Nat) (fc : Nat → Nat → Int32) (gq : Nat → Int32) : Prop := ∀ i, i < nf → ∀ j, j < fz i → gq (4 * i + j) = fc i j
theorem zFF_new {nf t : Nat} {G : Nat → Int32} {fz : Nat → Nat} {fc fc1 : Nat → Nat → Int32} {gq gq1 : Nat → Int32} {r : Int32} (h : zFF nf fz fc gq) (hl : ∀ i, i < nf → fz i ≤ 4) (h1 : zFC nf (0 ≤ r) t G fc fc1) (h2 : zGQ nf (0 ≤ r) t G gq gq1) : zFF (if 0 ≤ r then nf + 1 else nf) (if 0 ≤ r then va_up fz nf t else fz) fc1 gq1 := by
  intro i hi j hj
  by_cases hr : 0 ≤ r
  · rw [if_pos hr] at hi hj
    by_cases e : i = nf
    · subst e
      rw [va_up_self] at hj
      rw [h1.2 hr j hj, h2.2 hr j hj]
    · rw [va_up_ne _ _ e] at hj
      have := hl i (by omega)
      rw [h1.1 i (by omega), h2.1 i (by omega) j (by omega)]
      exact h i (by omega) j hj
  · rw [if_neg hr] at hi hj
    have := hl i hi
    rw [h1.1 i hi, h2.1 i hi j (by omega)]
    exact h i hi j hj
/-- a family's tag: the first kind that is the figure's own, else the last that it is of -/
def isO (k a : Int32) : Bool := decide (k = a) || (decide (k = 2) && decide (a = 1))
def zTG (g : Nat → Int32) (k : Int32) : Nat → Int32 × Bool
  | 0 => (-1, false)
  | i + 1 => if (zTG g k i).2 = true then zTG g k i else if g i = k then (nI i, true) else if isO k (g i) = true then (nI i, false) else zTG g k i
def q_tag (nf : Nat) (fz : Nat → Nat) (fk : Nat → Nat → Int32) (nn : Nat) (kd : Nat → Int32) (x y : Int32) : Int32 := if isF nf x = true then (if isF nn y = true then (zTG (fk (fI x)) (kd (fI y)) (fz (fI x))).1 else (-2)) else (-2)
def zTC (z : Nat) (g : Nat → Int32) (kd : Nat → Int32) (y : Int32) : Nat → Int32
  | 0 => 0
  | i + 1 => if (zTG g (kd i) z).1 = y then zTC z g kd y i + 1 else zTC z g kd y i
def q_tagged (nf : Nat) (fz : Nat → Nat) (fk : Nat → Nat → Int32) (nn : Nat) (kd : Nat → Int32) (x y : Int32) : Int32 := if isF nf x = true then (if y < (-1) then (-2) else if y ≤ 3 then zTC (fz (fI x)) (fk (fI x)) kd y nn else (-2)) else (-2)
theorem z_ixn {x M : Int32} {n : Nat} (hM : M.toInt = n) (h1 : 0 ≤ x) (h2 : x ≤ M) : ∃ j : Nat, j ≤ n ∧ x = nI j := nI_of2 hM (Int32.not_lt.mpr h1) h2
theorem z_ix4 {x : Int32} (h : 0 ≤ x ∧ x < 4) : ∃ j : Nat, j < 4 ∧ x = nI j := by
  obtain ⟨h1, h2⟩ := h
  rw [Int32.le_iff_toInt_le] at h1
  rw [Int32.lt_iff_toInt_lt] at h2
  have e0 : (0 : Int32).toInt = 0 := by decide
  have e4 : (4 : Int32).toInt = 4 := by decide
  rw [e0] at h1
  rw [e4] at h2
  exact vp_in_of (vp_in_iff.mpr ⟨h1, by omega⟩) (by omega)
theorem z_seed (x : Int32) : lg_cmp x.toInt64 2147483647 < 0 ↔ ¬ x = 2147483647 := by
  rw [lg_cmp_lt, Int64.lt_iff_toInt_lt, Int32.toInt_toInt64]
  have e : (2147483647 : Int64).toInt = 2147483647 := by decide
  have e2 : (2147483647 : Int32).toInt = 2147483647 := by decide
  have hb := Int32.toInt_lt x
  rw [e]
  constructor
  · rintro h rfl
    rw [e2] at h
    omega
  · intro h
    have : x.toInt ≠ 2147483647 := fun q => h (Int32.toInt_inj.mp (by rw [q, e2]))
    omega
/-- the kinds that were told, one after the other: the bits of those seen, or nothing more where one is none or was told twice -/
def zks (g : Nat → Int32) : Nat → Option Int32
  | 0 => some 0
  | i + 1 => match zks g i with
    | none => none
    | some s => if g i = (-1) then some s else if g i < 0 then none else if 6 < g i then none else if (s >>> (g i &&& 31)) &&& 1 = 0 then some (s ||| (1 <<< (g i &&& 31))) else none
theorem zks_none {g : Nat → Int32} {i : Nat} (h : zks g i = none) : ∀ d, zks g (i + d) = none := by
  intro d
  induction d with
  | zero => exact h
  | succ d ih => show zks g ((i + d) + 1) = none; simp [zks, ih]
theorem zks_none4 {g : Nat → Int32} {i : Nat} (hi : i < 4) (h : zks g (i + 1) = none) : ¬ (zks g 4).isSome = true := by
  have := zks_none h (3 - i)
  rw [show i + 1 + (3 - i) = 4 by omega] at this
  simp [this]
