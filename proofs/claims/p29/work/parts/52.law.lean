/-! THE CLAIM OUT OF ONE WALK OF THE LAW'S BODY. Your part is whole_start (and what it stands on); all else here is the same for every law, but numbers. -/
def R_law : String := "KindRowsLaw"
def lw_P (b : Addr) (xs : List Int32) (args : Array Value) (s : State) : Prop := args = #[.ref b] ∧ s.IntsAt b xs ∧ xs.length ≤ 2560 ∧ (Jvm.Cond.and given_1 narrow_1).before args s = true
def lw_Q (_ : Array Value) (s : State) (o : Outcome) (t : State) : Prop := o = .returned (some (.int 1)) ∧ Framed s o t [] 600000 7302249
def lw_Z (below : List Frame) (a : Array Value) (s : State) : State → Prop := fun t => ∃ o, t.status = .running ∧ Ended t below o ∧ lw_Q a s o t
/-- the law's own end, with 1 on the stack, nothing written that was there before, its room as the claim has it -/
theorem lw_ret {p : Program} {l : Launch} {e : Env} {s : State} {m : MethodId} {below : List Frame} {meth : Method} {c : Code} {b : Nat} (hx : p.tables.exec = Jvm.exec) (hb : c.code = code) (hr : meth.sig.returnType = ret) (hlocks : meth.locks = false) {pc : Nat} {H : Heap} {ls : Array Slot} (hdg : decode code pc = .ok (.ireturn, 1)) : W p l e room_1 s m #[Value.ref b] below meth c H [] 600000 7302249 (lw_Z below #[Value.ref b] s) (F0 m pc ls [.int 1]) := by
  intro T hT X
  obtain ⟨fs, hret, hrun, hended, hW, hframe⟩ := X.leave (v := some (.int 1)) (hlocks := hlocks) (fun h => by rw [hr] at h; cases h)
  have hmeth' : T.vm.method? m = some meth := X.method'
  refine ⟨T.setFrames fs, ?_, .returned (some (.int 1)), hrun, hended, rfl, ⟨_, rfl⟩, hW, hframe⟩
  jvm_step X.here [X.here.top, hx, hb, hdg, hmeth', hr, ret, narrow_b1]
  (try refine ⟨rfl, ?_⟩); (try refine ⟨rfl, ?_⟩)
  first | (intro acts; rw [hret _ acts rfl rfl rfl]) | rw [hret _ _ rfl rfl rfl]
  exact Steps.refl _
/-- what holds at the law's entry: the machine, the code, the tables' words (any of lw_tbl by 'hts w (by decide +kernel)'), the script of L ints xs at the cell b, what the Statement gives of the start (any of its parts by flat_of_before) -/
def lw_At (p : Program) (s : State) (m : MethodId) (meth : Method) (c : Code) (b L : Nat) (xs : Nat → Int32) : Prop :=
  p.tables.exec = Jvm.exec ∧ c.code = code ∧ meth.sig.returnType = ret ∧ c.maxLocals = 4 ∧ s.vm.findClass R_law = some m.cls ∧ (∀ w ∈ lw_tbl, w.before #[Value.ref b] s = true) ∧ va_X b L xs s s.heap ∧ b < s.heap.size ∧ meth.locks = false ∧ (Jvm.Cond.and given_1 narrow_1).before #[Value.ref b] s = true
theorem fI_lt {nn : Nat} {x : Int32} (hn : nn ≤ 60) (h : isF nn x = true) : fI x < nn := by
  obtain ⟨j, hj, e⟩ := isF_e hn h
  rw [fI_of (by omega) e]
  exact hj
theorem isP_lt {t : Nat} {y : Int32} (ht : t ≤ 15) (h : isP t y = true) : 1 + fI y < t := by
  simp [isP] at h
  have h1 : ¬ y < 0 := Int32.not_lt.mpr h.1
  have h2 : ¬ nI t - 1 ≤ y := Int32.not_le.mpr h.2
  obtain ⟨j, e, hj⟩ := z_place (x := y) (t := t) (by omega) (by rw [if_neg h1, if_neg h2]; decide)
  rw [fI_of (by omega) e]
  omega
theorem q_at_congr {nn : Nat} {kd : Nat → Int32} {ln : Nat → Nat} {pp : Nat → Nat → Int64} {gc : Nat → Int64} {x y : Int32} (h : zPC nn ln pp gc) (hl : ∀ i, i < nn → ln i ≤ 15) (hn : nn ≤ 60) : q_at nn kd ln pp x y = q_at nn kd ln (fun i j => gc (16 * i + j)) x y := by
  unfold q_at
  by_cases a : isF nn x = true
  · rw [if_pos a, if_pos a]
    by_cases b : isP (ln (fI x)) y = true
    · have hx := fI_lt hn a
      rw [if_pos b, if_pos b, ← h (fI x) hx (1 + fI y) (isP_lt (hl _ hx) b)]
    · rw [if_neg b, if_neg b]
  · rw [if_neg a, if_neg a]
theorem q_part_congr {nn : Nat} {ln : Nat → Nat} {pp : Nat → Nat → Int64} {gc : Nat → Int64} {x y : Int32} (h : zPC nn ln pp gc) (hl : ∀ i, i < nn → ln i ≤ 15) (hn : nn ≤ 60) : q_part nn ln pp x y = q_part nn ln (fun i j => gc (16 * i + j)) x y := by
  unfold q_part
  by_cases a : isF nn x = true
  · have hx := fI_lt hn a
    have hl9 := hl _ hx
    rw [if_pos a, if_pos a]
    by_cases b : y < 0
    · rw [if_pos b, if_pos b]
    · rw [if_neg b, if_neg b]
      by_cases c : nI (ln (fI x)) ≤ y
      · rw [if_pos c, if_pos c]
      · obtain ⟨k, hk, e⟩ := z_ixl b c (by omega)
        rw [if_neg c, if_neg c, fI_of (by omega) e]
        exact (h (fI x) hx k hk).symm
  · rw [if_neg a, if_neg a]
theorem zTG_congr {g g' : Nat → Int32} {k : Int32} : ∀ {z : Nat}, (∀ j, j < z → g j = g' j) → zTG g k z = zTG g' k z
  | 0, _ => rfl
  | i + 1, h => by
    rw [zTG, zTG, zTG_congr (z := i) (fun j hj => h j (by omega)), h i (by omega)]
theorem zTC_congr {z : Nat} {g g' : Nat → Int32} {kd : Nat → Int32} {y : Int32} (h : ∀ j, j < z → g j = g' j) : ∀ n, zTC z g kd y n = zTC z g' kd y n
  | 0 => rfl
  | i + 1 => by rw [zTC, zTC, zTC_congr h i, zTG_congr h]
theorem q_tag_congr {nf nn : Nat} {fz : Nat → Nat} {fc : Nat → Nat → Int32} {gq kd : Nat → Int32} {x y : Int32} (h : zFF nf fz fc gq) (hf : nf ≤ 60) : q_tag nf fz fc nn kd x y = q_tag nf fz (fun i j => gq (4 * i + j)) nn kd x y := by
  unfold q_tag
  by_cases a : isF nf x = true
  · rw [if_pos a, if_pos a, zTG_congr (fun j hj => (h (fI x) (fI_lt hf a) j hj).symm)]
  · rw [if_neg a, if_neg a]
theorem q_tagged_congr {nf nn : Nat} {fz : Nat → Nat} {fc : Nat → Nat → Int32} {gq kd : Nat → Int32} {x y : Int32} (h : zFF nf fz fc gq) (hf : nf ≤ 60) : q_tagged nf fz fc nn kd x y = q_tagged nf fz (fun i j => gq (4 * i + j)) nn kd x y := by
  unfold q_tagged
  by_cases a : isF nf x = true
  · rw [if_pos a, if_pos a, zTC_congr (fun j hj => (h (fI x) (fI_lt hf a) j hj).symm)]
  · rw [if_neg a, if_neg a]
theorem q_set_b {nn : Nat} {kd : Nat → Int32} {ln : Nat → Nat} {wd : Nat → Int32} {x y z : Int32} (hn : nn ≤ 60) (hl : ∀ i, i < nn → ln i ≤ 15) (h : (q_set nn kd ln wd x y z).1 = 1) : 1 + fI y < 16 := by
  unfold q_set at h
  by_cases a : isF nn x = true
  · rw [if_pos a] at h
    by_cases b : isP (ln (fI x)) y = true
    · have hx := fI_lt hn a
      have := isP_lt (hl _ hx) b
      have := hl _ hx
      omega
    · rw [if_neg b] at h
      split at h
      · split at h
        · split at h
          · exact absurd h (by decide)
          · exact absurd h (by decide)
        · exact absurd h (by decide)
      · exact absurd h (by decide)
  · rw [if_neg a] at h
    exact absurd h (by decide)
theorem zPC_setc {nn ja jk : Nat} {ln : Nat → Nat} {pp : Nat → Nat → Int64} {gc : Nat → Int64} {v : Int64} {r : Int32} (h : zPC nn ln pp gc) (hl : ∀ i, i < nn → ln i ≤ 15) (hk : r = 1 → 1 + jk < 16) : zPC nn ln (if r = 1 then va_up pp ja (vp_updL (pp ja) (1 + jk) v) else pp) (if r = 1 then vp_updL gc (16 * ja + 1 + jk) v else gc) := by
  by_cases a : r = 1
  · rw [if_pos a, if_pos a]
    exact zPC_set h hl (hk a)
  · rw [if_neg a, if_neg a]
    exact h
/-- the same constants in the same places -/
def zRE (nc : Nat) (ce cm : Nat → Int32) (sq : Nat → Nat) (mb : Nat → Nat → Int32) (gp : Nat → Int32) : Prop := zME nc ce gp sq ∧ (∀ e, e < 4 → ∀ k, k < sq e → ∃ c, c < nc ∧ mb e k = nI c ∧ ce c = nI e ∧ gp c = nI k) ∧ (∀ c, c < nc → ∀ d, d < nc → ce c = ce d → cm c = cm d → ¬ gp c = (-1) → ¬ gp d = (-1) → c = d) ∧ ∀ c, c < nc → ∃ n, n < 10000 ∧ cm c = nI n
theorem nIe {a b : Nat} (ha : a < 2 ^ 31) (hb : b < 2 ^ 31) (h : nI a = nI b) : a = b := (nI_eq ha hb).mp h
theorem zE4_e {x : Int32} {e : Nat} (he : e < 4) (h : x = nI e) : zE4 x := z_nE4e he h
/-- a live constant stands where its place says -/
theorem zRE_at {nc : Nat} {ce cm : Nat → Int32} {sq : Nat → Nat} {mb : Nat → Nat → Int32} {gp : Nat → Int32} (h : zRE nc ce cm sq mb gp) (hn : nc ≤ 60) {e d : Nat} (he : e < 4) (hd : d < nc) (e1 : ce d = nI e) (n : ¬ gp d = (-1)) : ∃ p, p < sq e ∧ p < nc ∧ gp d = nI p ∧ mb e p = nI d := by
  obtain ⟨hME, hM, -, -⟩ := h
  obtain ⟨p, hp, g1, g2⟩ := (hME.2.1 d hd).resolve_left n
  have hps := g2 e he e1
  obtain ⟨c, hc, m1, m2, m3⟩ := hM e he p hps
  have : c = d := hME.2.2.2.1 c hc d hd (m2.trans e1.symm) (m3.trans g1.symm) (by rw [m3]; exact z_nim1 (by omega))
  subst this
  exact ⟨p, hps, hp, g1, m1⟩
theorem zRE_mem {nc : Nat} {ce cm : Nat → Int32} {sq : Nat → Nat} {mb : Nat → Nat → Int32} {gp : Nat → Int32} (h : zRE nc ce cm sq mb gp) (hn : nc ≤ 60) {e k c : Nat} (he : e < 4) (hk : k < sq e) (hc : c < nc) (m : mb e k = nI c) : ce c = nI e ∧ gp c = nI k := by
  obtain ⟨c', hc', m1, m2, m3⟩ := h.2.1 e he k hk
  have : c' = c := nIe (by omega) (by omega) (m1.symm.trans m)
  subst this
  exact ⟨m2, m3⟩
theorem zRE_find {nc : Nat} {ce cm : Nat → Int32} {sq : Nat → Nat} {mb : Nat → Nat → Int32} {gp : Nat → Int32} (h : zRE nc ce cm sq mb gp) (hn : nc ≤ 60) {e : Nat} {x y r r' : Int32} (he : e < 4) (hx : x = nI e) (h1 : zMN (sq e) nc (mb e) cm y r) (h2 : zCO nc ce cm gp x y r') : r = r' := by
  subst hx
  have hsq := h.1.2.2.2.2 e he
  rcases h1 with ⟨i, hi, c, hc, e1, e2, e3⟩ | ⟨e3, hno⟩
  · obtain ⟨m2, m3⟩ := zRE_mem h hn he hi hc e1
    have nc1 : ¬ gp c = (-1) := by rw [m3]; exact z_nim1 (by omega)
    rcases h2 with ⟨d, hd, d1, d2, d3, d4⟩ | ⟨-, hno⟩
    · have : c = d := h.2.2.1 c hc d hd (m2.trans d2.symm) (e2.trans d3.symm) nc1 d4
      rw [e3, d1, this]
    · exact absurd ⟨m2, e2, nc1⟩ (hno c hc)
  · rcases h2 with ⟨d, hd, d1, d2, d3, d4⟩ | ⟨e4, -⟩
    · obtain ⟨p, hp, -, -, m⟩ := zRE_at h hn he hd d2 d4
      exact absurd d3 (hno p hp d hd m)
    · rw [e3, e4]
theorem law_named {nc : Nat} {ce cm : Nat → Int32} {sq : Nat → Nat} {mb : Nat → Nat → Int32} {gp : Nat → Int32} {x y r r' : Int32} (h : zRE nc ce cm sq mb gp) (hn : nc ≤ 60) (a : zXN x y nc cm sq mb r) (b : zYN x y nc ce cm gp r') : r = r' := by
  rcases a with ⟨e, he, hx, m, hm, hr⟩ | ⟨hr, hx⟩
  · rcases b with ⟨e', he', hx', m', hm', hr'⟩ | ⟨-, hx'⟩
    · rw [hr, hr', zRE_find h hn he hx hm hm']
    · exact absurd (zE4_e he hx) hx'
  · rcases b with ⟨e', he', hx', -⟩ | ⟨hr', -⟩
    · exact absurd (zE4_e he' hx') hx
    · rw [hr, hr']
theorem law_constant {nc : Nat} {ce cm : Nat → Int32} {sq : Nat → Nat} {mb : Nat → Nat → Int32} {gp : Nat → Int32} {x y r r' : Int32} (h : zRE nc ce cm sq mb gp) (hn : nc ≤ 60) (a : zXC x y nc cm sq mb r) (b : zYC x y nc ce cm gp r') : r = r' ∧ zRE (if 0 ≤ r then nc + 1 else nc) (if 0 ≤ r then va_up ce nc x else ce) (if 0 ≤ r then va_up cm nc y else cm) (if 0 ≤ r then va_up sq (fI x) (sq (fI x) + 1) else sq) (if 0 ≤ r then va_up mb (fI x) (upd (mb (fI x)) (sq (fI x)) (nI nc)) else mb) (if 0 ≤ r then upd gp nc (nI (sq (fI x))) else gp) := by
  have keep : ∀ q : Int32, ¬ 0 ≤ q → zRE (if 0 ≤ q then nc + 1 else nc) (if 0 ≤ q then va_up ce nc x else ce) (if 0 ≤ q then va_up cm nc y else cm) (if 0 ≤ q then va_up sq (fI x) (sq (fI x) + 1) else sq) (if 0 ≤ q then va_up mb (fI x) (upd (mb (fI x)) (sq (fI x)) (nI nc)) else mb) (if 0 ≤ q then upd gp nc (nI (sq (fI x))) else gp) := fun q hq => by
    rw [if_neg hq, if_neg hq, if_neg hq, if_neg hq, if_neg hq, if_neg hq]
    exact h
  rcases a with ⟨e, he, hx, hy, hm, hr⟩ | ⟨hr, ha⟩
  · rcases b with ⟨e', he', hx', hy', hm', hr'⟩ | ⟨hr', hb⟩
    · refine ⟨by rw [hr, hr'], ?_⟩
      by_cases h60 : nc < 60
      · rw [if_pos h60] at hr
        have h0 : 0 ≤ r := by rw [hr]; exact nI_pos' (by omega)
        rw [if_pos h0, if_pos h0, if_pos h0, if_pos h0, if_pos h0, if_pos h0]
        have hfx : fI x = e := fI_of (by omega) hx
        rw [hfx]
        have hME := zME_new h.1 h60 he hx
        rw [z_uv] at hME
        have hsq := h.1.2.2.2.2
        have nm : ∀ d, d < nc → ce d = nI e → cm d = y → gp d = (-1) := fun d hd d1 d2 => by
          apply Classical.byContradiction
          intro d3
          rcases hm' with ⟨d', hd', q, -⟩ | ⟨-, hno⟩
          · exact absurd q.symm (z_nim1 (by omega))
          · exact hno d hd ⟨d1.trans hx.symm, d2, d3⟩
        refine ⟨hME, ?_, ?_, ?_⟩
        · intro i hi k hk
          by_cases q : i = e
          · subst q
            rw [va_up_self] at hk ⊢
            by_cases qk : k = sq i
            · subst qk
              exact ⟨nc, by omega, by rw [pk_us], by rw [va_up_self]; exact hx, by rw [pk_us]⟩
            · obtain ⟨c, hc, m1, m2, m3⟩ := h.2.1 i hi k (by omega)
              exact ⟨c, by omega, by rw [pk_un qk]; exact m1, by rw [va_up_ne _ _ (by omega)]; exact m2, by rw [pk_un (by omega)]; exact m3⟩
          · rw [va_up_ne _ _ q] at hk ⊢
            obtain ⟨c, hc, m1, m2, m3⟩ := h.2.1 i hi k hk
            exact ⟨c, by omega, m1, by rw [va_up_ne _ _ (by omega)]; exact m2, by rw [pk_un (by omega)]; exact m3⟩
        · intro c hc d hd
          by_cases qc : c = nc
          · by_cases qd : d = nc
            · intro _ _ _ _; omega
            · rw [qc, va_up_self, va_up_self, va_up_ne _ _ qd, va_up_ne _ _ qd, pk_un qd]
              intro a1 a2 _ a4
              exact absurd (nm d (by omega) (a1.symm.trans hx) a2.symm) a4
          · by_cases qd : d = nc
            · rw [qd, va_up_self, va_up_self, va_up_ne _ _ qc, va_up_ne _ _ qc, pk_un qc]
              intro a1 a2 a3 _
              exact absurd (nm c (by omega) (a1.trans hx) a2) a3
            · rw [va_up_ne _ _ qc, va_up_ne _ _ qc, va_up_ne _ _ qd, va_up_ne _ _ qd, pk_un qc, pk_un qd]
              exact h.2.2.1 c (by omega) d (by omega)
        · intro c hc
          by_cases qc : c = nc
          · rw [qc, va_up_self]
            obtain ⟨y1, y2⟩ := hy
            have y3 : ¬ (10000 : Int32) ≤ y := Int32.not_le.mpr y2
            obtain ⟨n, hn1, e1⟩ := z_ixl (x := y) (n := 10000) (Int32.not_lt.mpr y1) y3 (by omega)
            exact ⟨n, hn1, e1⟩
          · rw [va_up_ne _ _ qc]
            exact h.2.2.2 c (by omega)
      · rw [if_neg h60] at hr
        exact keep r (by rw [hr]; decide)
    · exfalso
      rcases hb with hb | hb | ⟨e', he', hx', m, hm1, hm2⟩
      · exact hb (zE4_e he hx)
      · exact hb hy
      · exact hm1 (zRE_find h hn he hx hm hm2).symm
  · rcases b with ⟨e', he', hx', hy', hm', hr'⟩ | ⟨hr', hb⟩
    · exfalso
      rcases ha with ha | ha | ⟨e, he, hx, m, hm1, hm2⟩
      · exact ha (zE4_e he' hx')
      · exact ha hy'
      · exact hm1 (zRE_find h hn he hx hm2 hm')
    · exact ⟨by rw [hr, hr'], keep r (by rw [hr]; decide)⟩
theorem law_drop {nc : Nat} {ce cm : Nat → Int32} {sq sq1 sq2 : Nat → Nat} {mb mb1 : Nat → Nat → Int32} {gp gp1 : Nat → Int32} {x r r' : Int32} (h : zRE nc ce cm sq mb gp) (hn : nc ≤ 60) (a : zXD nc x ce sq mb r sq1 mb1) (b : zYD nc x ce gp sq r' sq2 gp1) : r = r' ∧ sq2 = sq1 ∧ zRE nc ce cm sq1 mb1 gp1 := by
  have hsq := h.1.2.2.2.2
  rcases a with ⟨jc, hjc, hx, je, hje, hxe, k, hk, hmk, -, hr, hs, g1, hmb, hg1⟩ | ⟨hr, hs, hmb, hno⟩
  · have hsj := hsq je hje
    obtain ⟨-, hgk⟩ := zRE_mem h hn hje hk hjc (hmk.trans hx)
    rcases b with ⟨jc', hjc', hx', je', hje', hxe', pj, hpj, hpn, hgp, hr', hs', gv, hgv, hgp1⟩ | ⟨-, -, -, hno⟩
    · obtain rfl : jc = jc' := nIe (by omega) (by omega) (hx.symm.trans hx')
      obtain rfl : je = je' := nIe (by omega) (by omega) (hxe.symm.trans hxe')
      obtain rfl : k = pj := nIe (by omega) (by omega) (hgk.symm.trans hgp)
      subst hs hs' hmb hgp1
      have nlt : ∀ c, gp c = (-1) → gv c = (-1) := fun c hc => by
        rw [hgv c, if_neg, hc]
        rintro ⟨-, -, q⟩
        rw [hc, hgp, Int32.lt_iff_toInt_lt, nI_toInt (by omega)] at q
        have e1 : (-1 : Int32).toInt = -1 := by decide
        omega
      refine ⟨by rw [hr, hr'], rfl, zME_drop h.1 hn hjc hje hxe hgp hpj hpn hgv, ?_, ?_, h.2.2.2⟩
      · intro e he i hi
        by_cases q : e = je
        · subst q
          rw [va_up_self] at hi ⊢
          rw [hg1 i]
          by_cases qi : k ≤ i
          · rw [if_pos ⟨qi, hi⟩]
            obtain ⟨c, hc, m1, m2, m3⟩ := h.2.1 e he (i + 1) (by omega)
            have ncj : ¬ c = jc := fun w => by
              rw [w, hgp] at m3
              have := nIe (by omega) (by omega) m3
              omega
            refine ⟨c, hc, m1, m2, ?_⟩
            rw [pk_un ncj, hgv c, if_pos ⟨hc, m2, by rw [hgp, m3]; exact (nI_ltI (by omega) (by omega)).mpr (by omega)⟩, m3]
            exact pk_sub (a := i + 1) (b := 1) (by omega)
          · rw [if_neg (fun w => qi w.1)]
            obtain ⟨c, hc, m1, m2, m3⟩ := h.2.1 e he i (by omega)
            have ncj : ¬ c = jc := fun w => by
              rw [w, hgp] at m3
              have := nIe (by omega) (by omega) m3
              omega
            refine ⟨c, hc, m1, m2, ?_⟩
            rw [pk_un ncj, hgv c, if_neg, m3]
            rintro ⟨-, -, w⟩
            rw [hgp, m3] at w
            have := (nI_ltI (by omega) (by omega)).mp w
            omega
        · rw [va_up_ne _ _ q] at hi ⊢
          have hse := hsq e he
          obtain ⟨c, hc, m1, m2, m3⟩ := h.2.1 e he i hi
          have nce : ¬ ce c = nI je := fun w => q (nIe (by omega) (by omega) (m2.symm.trans w))
          have ncj : ¬ c = jc := fun w => nce (by rw [w]; exact hxe)
          refine ⟨c, hc, m1, m2, ?_⟩
          rw [pk_un ncj, hgv c, if_neg (fun w => nce w.2.1), m3]
      · intro c hc d hd a1 a2 a3 a4
        have lc : ¬ gp c = (-1) := fun w => by
          by_cases q : c = jc
          · exact a3 (by rw [q]; exact pk_us)
          · exact a3 (by rw [pk_un q]; exact nlt c w)
        have ld : ¬ gp d = (-1) := fun w => by
          by_cases q : d = jc
          · exact a4 (by rw [q]; exact pk_us)
          · exact a4 (by rw [pk_un q]; exact nlt d w)
        exact h.2.2.1 c hc d hd a1 a2 lc ld
    · exfalso
      have := hno jc hjc hx
      rw [hgk] at this
      exact z_nim1 (by omega) this
  · rcases b with ⟨jc', hjc', hx', je', hje', hxe', pj, hpj, hpn, hgp, hr', hs', gv, hgv, hgp1⟩ | ⟨hr', hs', hgp1, -⟩
    · exfalso
      obtain ⟨p, hp, -, g1, m⟩ := zRE_at h hn hje' hjc' hxe' (by rw [hgp]; exact z_nim1 (by omega))
      exact hno jc' hjc' hx' je' hje' hxe' p hp (m.trans hx'.symm)
    · subst hs hmb hgp1 hs'
      exact ⟨by rw [hr, hr'], rfl, h⟩
/-- the turning over of one enumeration, on both sides -/
theorem law_sh {nc e : Nat} {ce : Nat → Int32} {sq : Nat → Nat} (he : e < 4) (hn : nc ≤ 60) : ∀ (k : Nat) (g gp gp1 : Nat → Int32) (l l1 : Int64), k ≤ sq e → zME nc ce gp sq → (∀ i, i < sq e → ∃ c, c < nc ∧ g i = nI c ∧ ce c = nI e ∧ gp c = nI i) → zSG e nc ce k gp l gp1 l1 → l1 = (zSH k g l).2 ∧ zME nc ce gp1 sq ∧ (∀ i, i < sq e → ∃ c, c < nc ∧ (zSH k g l).1 i = nI c ∧ ce c = nI e ∧ gp1 c = nI i) ∧ (∀ c, c < nc → ¬ ce c = nI e → gp1 c = gp c) ∧ ∀ c, c < nc → ¬ gp1 c = (-1) → ¬ gp c = (-1)
  | 0, g, gp, gp1, l, l1, hk, hM, hg, hS => by
    obtain ⟨rfl, rfl⟩ := hS
    exact ⟨rfl, hM, hg, fun _ _ _ => rfl, fun _ _ w => w⟩
  | k + 1, g, gp, gp1, l, l1, hk, hM, hg, hS => by
    rw [zSG] at hS
    rw [zSH]
    by_cases k0 : k = 0
    · rw [if_pos k0] at hS
      rw [if_pos k0]
      obtain ⟨rfl, rfl⟩ := hS
      exact ⟨rfl, hM, hg, fun _ _ _ => rfl, fun _ _ w => w⟩
    · rw [if_neg k0] at hS
      rw [if_neg k0]
      obtain ⟨ca, cb, hca, hcb, eca, ecb, pca, pcb, hS⟩ := hS
      have hse := hM.2.2.2.2 e he
      obtain ⟨j, hj⟩ : ∃ j, j = zLN (zDR l) % (k + 1) := ⟨_, rfl⟩
      rw [← hj] at hS pcb ⊢
      have hjk : j < k + 1 := by rw [hj]; exact Nat.mod_lt _ (by omega)
      have fa : ∀ i, i < sq e → gp ca = nI i → g i = nI ca := fun i hi q => by
        obtain ⟨c, hc, m1, m2, m3⟩ := hg i hi
        have : c = ca := hM.2.2.2.1 c hc ca hca (m2.trans eca.symm) (m3.trans q.symm) (by rw [m3]; exact z_nim1 (by omega))
        rw [m1, this]
      have fb : ∀ i, i < sq e → gp cb = nI i → g i = nI cb := fun i hi q => by
        obtain ⟨c, hc, m1, m2, m3⟩ := hg i hi
        have : c = cb := hM.2.2.2.1 c hc cb hcb (m2.trans ecb.symm) (m3.trans q.symm) (by rw [m3]; exact z_nim1 (by omega))
        rw [m1, this]
      have gk := fa k (by omega) pca
      have gj := fb j (by omega) pcb
      have hM2 : zME nc ce (upd (upd gp ca (nI j)) cb (if ca = cb then nI j else nI k)) sq := by
        by_cases q : ca = cb
        · rw [if_pos q]
          exact zME_swapE hM hca hcb eca ecb pca pcb q
        · rw [if_neg q]
          exact zME_swap hM hca hcb eca ecb pca pcb
      have hg2 : ∀ i, i < sq e → ∃ c, c < nc ∧ zsw g k j i = nI c ∧ ce c = nI e ∧ upd (upd gp ca (nI j)) cb (if ca = cb then nI j else nI k) c = nI i := by
        intro i hi
        rw [zsw]
        by_cases qj : i = j
        · subst qj
          refine ⟨ca, hca, by rw [pk_us]; exact gk, eca, ?_⟩
          by_cases q : ca = cb
          · rw [← q, pk_us, if_pos rfl]
          · rw [pk_un q, pk_us]
        · rw [pk_un qj]
          by_cases qk : i = k
          · subst qk
            refine ⟨cb, hcb, by rw [pk_us]; exact gj, ecb, ?_⟩
            have ncab : ¬ ca = cb := fun w => by
              rw [w] at pca
              have := nIe (by omega) (by omega) (pca.symm.trans pcb)
              omega
            rw [pk_us, if_neg ncab]
          · rw [pk_un qk]
            obtain ⟨c, hc, m1, m2, m3⟩ := hg i hi
            have na : ¬ c = ca := fun w => by
              rw [w, pca] at m3
              have := nIe (by omega) (by omega) m3
              omega
            have nb : ¬ c = cb := fun w => by
              rw [w, pcb] at m3
              have := nIe (by omega) (by omega) m3
              omega
            exact ⟨c, hc, m1, m2, by rw [pk_un nb, pk_un na]; exact m3⟩
      obtain ⟨r1, r2, r3, r4, r5⟩ := law_sh he hn k (zsw g k j) _ gp1 (zDR l) l1 (by omega) hM2 hg2 hS
      refine ⟨r1, r2, r3, fun c hc q => ?_, fun c hc q => ?_⟩
      · have na : ¬ c = ca := fun w => q (by rw [w]; exact eca)
        have nb : ¬ c = cb := fun w => q (by rw [w]; exact ecb)
        rw [r4 c hc q, pk_un nb, pk_un na]
      · have w := r5 c hc q
        by_cases nb : c = cb
        · rw [nb, pcb]
          exact z_nim1 (by omega)
        · rw [pk_un nb] at w
          by_cases na : c = ca
          · rw [na, pca]
            exact z_nim1 (by omega)
          · rw [pk_un na] at w
            exact w
theorem law_reorder {nc : Nat} {ce cm : Nat → Int32} {sq : Nat → Nat} {mb mb1 : Nat → Nat → Int32} {gp gp1 : Nat → Int32} {x r r' : Int32} {l l1 l2 : Int64} (h : zRE nc ce cm sq mb gp) (hn : nc ≤ 60) (a : zXR x sq mb l r mb1 l1) (b : zYR nc x ce gp sq l r' gp1 l2) : r = r' ∧ l2 = l1 ∧ zRE nc ce cm sq mb1 gp1 := by
  rcases a with ⟨e, he, hx, hr, hmb, hl⟩ | ⟨hx, hr, hmb, hl⟩
  · rcases b with ⟨e', he', hx', hr', hS⟩ | ⟨hx', -⟩
    · obtain rfl : e = e' := nIe (by omega) (by omega) (hx.symm.trans hx')
      obtain ⟨r1, r2, r3, r4, r5⟩ := law_sh he hn (sq e) (mb e) gp gp1 l l2 (Nat.le_refl _) h.1 (h.2.1 e he) hS
      refine ⟨by rw [hr, hr'], by rw [hl, r1], r2, fun i hi k hk => ?_, fun c hc d hd a1 a2 a3 a4 => h.2.2.1 c hc d hd a1 a2 (r5 c hc a3) (r5 d hd a4), h.2.2.2⟩
      rw [hmb]
      by_cases q : i = e
      · subst q
        rw [va_up_self]
        exact r3 k hk
      · rw [va_up_ne _ _ q]
        obtain ⟨c, hc, m1, m2, m3⟩ := h.2.1 i hi k hk
        exact ⟨c, hc, m1, m2, by rw [r4 c hc (fun w => q (nIe (by omega) (by omega) (m2.symm.trans w)))]; exact m3⟩
    · exact absurd (zE4_e he hx) hx'
  · rcases b with ⟨e', he', hx', -⟩ | ⟨-, hr', hg, hl'⟩
    · exact absurd (zE4_e he' hx') hx
    · subst hmb hg
      exact ⟨by rw [hr, hr'], by rw [hl, hl'], h⟩
theorem law_told {nc : Nat} {ce cm : Nat → Int32} {sq : Nat → Nat} {mb : Nat → Nat → Int32} {gp : Nat → Int32} {x y r r' : Int32} (h : zRE nc ce cm sq mb gp) (hn : nc ≤ 60) (a : zXT nc x y ce cm sq mb r) (b : zYT nc x y ce cm gp r') : r = r' := by
  have hsq := h.1.2.2.2.2
  rcases a with ⟨jc, hjc, hx, je, hje, hxe, p, hp, hr⟩ | ⟨hr, ha⟩
  · have hsj := hsq je hje
    rcases b with ⟨jc', hjc', hx', hr'⟩ | ⟨-, hb⟩
    · obtain rfl : jc = jc' := nIe (by omega) (by omega) (hx.symm.trans hx')
      have e2 : y = 2 → p = gp jc := fun hy => by
        rcases hp hy with ⟨k, hk, e1, e2, -⟩ | ⟨e1, hno⟩
        · rw [e1]
          exact (zRE_mem h hn hje hk hjc (e2.trans hx)).2.symm
        · apply Classical.byContradiction
          intro q
          have n1 : ¬ gp jc = (-1) := fun w => q (e1.trans w.symm)
          obtain ⟨k, hk, -, -, m⟩ := zRE_at h hn hje hjc hxe n1
          exact hno k hk (m.trans hx.symm)
      rw [hr, hr']
      by_cases c0 : y = 0
      · rw [if_pos c0, if_pos c0]
      · rw [if_neg c0, if_neg c0]
        by_cases c1 : y = 1
        · rw [if_pos c1, if_pos c1]
        · rw [if_neg c1, if_neg c1]
          by_cases c2 : y = 2
          · rw [if_pos c2, if_pos c2, e2 c2]
          · rw [if_neg c2, if_neg c2]
    · exact absurd hx (hb jc hjc)
  · rcases b with ⟨jc', hjc', hx', -⟩ | ⟨hr', -⟩
    · obtain ⟨e, he, e1⟩ := h.1.1 jc' hjc'
      exact absurd (zE4_e he e1) (ha jc' hjc' hx')
    · rw [hr, hr']
theorem law_placed {nc : Nat} {ce cm : Nat → Int32} {sq : Nat → Nat} {mb : Nat → Nat → Int32} {gp : Nat → Int32} {x y r r' : Int32} (h : zRE nc ce cm sq mb gp) (hn : nc ≤ 60) (a : zXP x y sq mb r) (b : zYP nc x y ce gp r') : r = r' := by
  have hsq := h.1.2.2.2.2
  rcases a with ⟨e, he, hx, ha⟩ | ⟨hr, ha⟩
  · have hse := hsq e he
    rcases b with ⟨e', he', hx', hy', hb⟩ | ⟨-, hb⟩
    · rcases ha with ⟨k, hk, hy, hr⟩ | ⟨hy, hy2, hr⟩
      · obtain ⟨c, hc, m1, m2, m3⟩ := h.2.1 e he k hk
        rcases hb with ⟨d, hd, e1, e2, e3⟩ | ⟨-, hno⟩
        · have : c = d := h.1.2.2.2.1 c hc d hd (m2.trans (hx.symm.trans e2.symm)) (m3.trans (hy.symm.trans e3.symm)) (by rw [m3]; exact z_nim1 (by omega))
          rw [hr, m1, e1, this]
        · exact absurd ⟨m2.trans hx.symm, m3.trans hy.symm⟩ (hno c hc)
      · rcases hb with ⟨d, hd, e1, e2, e3⟩ | ⟨e1, -⟩
        · exfalso
          have n1 : ¬ gp d = (-1) := fun w => by
            rw [w] at e3
            rw [← e3] at hy
            exact absurd hy (by decide)
          obtain ⟨p, hp, -, g1, -⟩ := zRE_at h hn he hd (e2.trans hx) n1
          rw [← e3, g1] at hy2
          have := (nI_leI (by omega) (by omega)).mp hy2
          omega
        · rw [hr, e1]
    · exfalso
      rcases hb with hb | hb
      · exact hb (zE4_e he hx)
      · rcases ha with ⟨k, hk, hy, -⟩ | ⟨hy, -⟩
        · rw [hy] at hb
          exact nI_pos (by omega) hb
        · exact absurd hb (Int32.not_lt.mpr hy)
  · rcases b with ⟨e', he', hx', hy', -⟩ | ⟨hr', -⟩
    · exfalso
      rcases ha with ha | ha
      · exact ha (zE4_e he' hx')
      · exact absurd ha (Int32.not_lt.mpr hy')
    · rw [hr, hr']
/-- the same keys -/
def zKR (ks : Nat) (kk k1 k2 : Nat → Int32) : Prop := ∀ i, i < ks → kk i = k1 i * 10000 + k2 i ∧ (∃ e, e < 4 ∧ k1 i = nI e) ∧ ∃ n, n < 10000 ∧ k2 i = nI n
theorem zky {e e' n n' : Nat} (he : e < 4) (he' : e' < 4) (hn : n < 10000) (hn' : n' < 10000) (h : nI e * 10000 + nI n = nI e' * 10000 + nI n') : e = e' ∧ n = n' := by
  have q : ∀ a b : Nat, nI a * 10000 + nI b = nI (a * 10000 + b) := fun a b => by
    have e1 : nI a * 10000 = nI (a * 10000) := pk_mul a 10000
    rw [e1, nI_add]
  rw [q, q] at h
  have := nIe (by omega) (by omega) h
  omega
theorem zKR_key {ks : Nat} {kk k1 k2 : Nat → Int32} {A B : Int32} (h : zKR ks kk k1 k2) (hA : ∃ e, e < 4 ∧ A = nI e) (hB : ∃ n, n < 10000 ∧ B = nI n) {i : Nat} (hi : i < ks) : kk i = A * 10000 + B ↔ (k1 i = A ∧ k2 i = B) := by
  obtain ⟨e1, ⟨e, he, e2⟩, n, hn, e3⟩ := h i hi
  obtain ⟨e', he', rfl⟩ := hA
  obtain ⟨n', hn', rfl⟩ := hB
  rw [e1, e2, e3]
  constructor
  · intro q
    obtain ⟨rfl, rfl⟩ := zky he he' hn hn' q
    exact ⟨rfl, rfl⟩
  · rintro ⟨q1, q2⟩
    rw [q1, q2]
theorem law_put {nc ks ks1 ks2 : Nat} {ce cm kk kv kk1 kv1 k1 k2 l1 l2 l3 : Nat → Int32} {sq : Nat → Nat} {mb : Nat → Nat → Int32} {gp : Nat → Int32} {x y r r' : Int32} (h : zRE nc ce cm sq mb gp) (hn : nc ≤ 60) (hk40 : ks ≤ 40) (hK : zKR ks kk k1 k2) (a : zXU nc x y ce cm ks kk kv r ks1 kk1 kv1) (b : zYU nc x y ce cm ks k1 k2 kv r' ks2 l1 l2 l3) : r = r' ∧ ks2 = ks1 ∧ l3 = kv1 ∧ zKR ks1 kk1 l1 l2 := by
  rcases a with ⟨jc, hjc, hx, hS⟩ | ⟨hx, rfl, rfl, rfl, rfl⟩
  · rcases b with ⟨jc', hjc', hx', k, ⟨hk, hk1, hk2⟩, hb⟩ | ⟨hx', -⟩
    · obtain rfl : jc = jc' := nIe (by omega) (by omega) (hx.symm.trans hx')
      have hA := h.1.1 jc hjc
      have hB := h.2.2.2 jc hjc
      rcases hS with ⟨i, hi, hi1, hi2, rfl, rfl, rfl, rfl⟩ | ⟨hno, hS⟩
      · have q1 := (zKR_key hK hA hB hi).mp hi1
        have hik : k = i := by
          rcases (show k < i ∨ k = i ∨ i < k by omega) with w | w | w
          · exact absurd ((zKR_key hK hA hB (by omega)).mpr (hk2 (by omega))) (hi2 k w)
          · exact w
          · exact absurd q1 (hk1 i w)
        subst hik
        rcases hb with ⟨-, rfl, rfl, rfl, rfl, rfl⟩ | ⟨w, -⟩
        · refine ⟨by rw [if_pos hi], by rw [if_pos hi], rfl, fun i2 h2 => ?_⟩
          by_cases q : i2 = k
          · subst q
            rw [pk_us, pk_us]
            exact ⟨hi1, hA, hB⟩
          · rw [pk_un q, pk_un q]
            exact hK i2 h2
        · omega
      · have hkk : k = ks := by
          rcases (show k < ks ∨ k = ks by omega) with w | w
          · exact absurd ((zKR_key hK hA hB w).mpr (hk2 w)) (hno k w)
          · exact w
        subst hkk
        rcases hS with ⟨w, rfl, rfl, rfl, rfl⟩ | ⟨w, rfl, rfl, rfl, rfl⟩
        · rcases hb with ⟨-, rfl, rfl, rfl, rfl, rfl⟩ | ⟨w2, -⟩
          · refine ⟨by rw [if_neg (by omega)], by rw [if_neg (by omega)], rfl, fun i2 h2 => ?_⟩
            by_cases q : i2 = k
            · subst q
              rw [pk_us, pk_us, pk_us]
              exact ⟨rfl, hA, hB⟩
            · rw [pk_un q, pk_un q, pk_un q]
              exact hK i2 (by omega)
          · exact absurd w w2
        · rcases hb with ⟨w2, -⟩ | ⟨-, rfl, rfl, rfl, rfl, rfl⟩
          · exact absurd w2 w
          · exact ⟨rfl, rfl, rfl, hK⟩
    · exact absurd hx (hx' jc hjc)
  · rcases b with ⟨jc', hjc', hx', -⟩ | ⟨-, rfl, rfl, rfl, rfl, rfl⟩
    · exact absurd hx' (hx jc' hjc')
    · exact ⟨rfl, rfl, rfl, hK⟩
theorem law_get {nc ks : Nat} {ce cm kk kv k1 k2 : Nat → Int32} {sq : Nat → Nat} {mb : Nat → Nat → Int32} {gp : Nat → Int32} {x r r' : Int32} (h : zRE nc ce cm sq mb gp) (hn : nc ≤ 60) (hK : zKR ks kk k1 k2) (a : zXG nc x ce cm ks kk kv r) (b : zYG nc x ce cm ks k1 k2 kv r') : r = r' := by
  rcases a with ⟨jc, hjc, hx, hS⟩ | ⟨hx, hr⟩
  · rcases b with ⟨jc', hjc', hx', k, ⟨hk, hk1, hk2⟩, hb⟩ | ⟨hx', -⟩
    · obtain rfl : jc = jc' := nIe (by omega) (by omega) (hx.symm.trans hx')
      have hA := h.1.1 jc hjc
      have hB := h.2.2.2 jc hjc
      rcases hS with ⟨i, hi, hi1, hi2, hr⟩ | ⟨hno, hr⟩
      · have q1 := (zKR_key hK hA hB hi).mp hi1
        have hik : k = i := by
          rcases (show k < i ∨ k = i ∨ i < k by omega) with w | w | w
          · exact absurd ((zKR_key hK hA hB (by omega)).mpr (hk2 (by omega))) (hi2 k w)
          · exact w
          · exact absurd q1 (hk1 i w)
        subst hik
        rw [hr, hb, if_pos hi]
      · have hkk : ¬ k < ks := fun w => hno k w ((zKR_key hK hA hB w).mpr (hk2 w))
        rw [hr, hb, if_neg hkk]
    · exact absurd hx (hx' jc hjc)
  · rcases b with ⟨jc', hjc', hx', -⟩ | ⟨-, hr'⟩
    · exact absurd hx' (hx jc' hjc')
    · rw [hr, hr']
theorem zIM_ln {cy : Nat → ClassId} {f : zM} {o : Nat} {wev : Nat} {wnb : Nat} {wki : Nat} {wmy : Nat} {wce : Nat} {wiw : Nat} {wli : Nat} {wha : Nat} {wwt : Nat} {wfy : Nat} {wfk : Nat} {wem : Nat} {wna : Nat} {wpl : Nat} {whs : Nat} {wk1 : Nat} {wk2 : Nat} {wk3 : Nat} {u1 : Int32} {u2 : Int32} {u3 : Int32} {nl : Nat} {nn : Nat} {nf : Nat} {nc : Nat} {lk : Int64} {ks : Nat} {gv : Nat → Int32} {gu : Nat → Int32} {gk : Nat → Int32} {gm : Nat → Int32} {gc : Nat → Int64} {gw : Nat → Int32} {gl : Nat → Int32} {gh : Nat → Int32} {gt : Nat → Int64} {gy : Nat → Int32} {gq : Nat → Int32} {ge1 : Nat → Int32} {gn1 : Nat → Int32} {gp1 : Nat → Int32} {gs : Nat → Int32} {gx1 : Nat → Int32} {gx2 : Nat → Int32} {gx3 : Nat → Int32} {ln : Nat → Nat} {fz : Nat → Nat} {sq : Nat → Nat} (h : zIM cy f o wev wnb wki wmy wce wiw wli wha wwt wfy wfk wem wna wpl whs wk1 wk2 wk3 u1 u2 u3 nl nn nf nc lk ks gv gu gk gm gc gw gl gh gt gy gq ge1 gn1 gp1 gs gx1 gx2 gx3 ln fz sq) : ∀ i, i < nn → ln i ≤ 15 := by
  obtain ⟨_, _, _, _, _, _, _, _, _, _, _, _, _, _, _, _, _, _, _, hn60, hl12, hf6, hc60, hs40, hMP, hgy, hfz, hgs, hME, hlk, hgw, hfd, n_wki_wmy, n_wki_wiw, n_wki_wli, n_wki_wha, n_wki_wem, n_wki_wna, n_wki_wpl, n_wmy_wiw, n_wmy_wli, n_wmy_wha, n_wmy_wem, n_wmy_wna, n_wmy_wpl, n_wiw_wli, n_wiw_wha, n_wiw_wem, n_wiw_wna, n_wiw_wpl, n_wli_wha, n_wli_wem, n_wli_wna, n_wli_wpl, n_wha_wem, n_wha_wna, n_wha_wpl, n_wem_wna, n_wem_wpl, n_wna_wpl, n_wk1_wk2, n_wk1_wk3, n_wk2_wk3⟩ := h
  exact fun i hi => (hMP i hi).2.1
theorem zIM_fz {cy : Nat → ClassId} {f : zM} {o : Nat} {wev : Nat} {wnb : Nat} {wki : Nat} {wmy : Nat} {wce : Nat} {wiw : Nat} {wli : Nat} {wha : Nat} {wwt : Nat} {wfy : Nat} {wfk : Nat} {wem : Nat} {wna : Nat} {wpl : Nat} {whs : Nat} {wk1 : Nat} {wk2 : Nat} {wk3 : Nat} {u1 : Int32} {u2 : Int32} {u3 : Int32} {nl : Nat} {nn : Nat} {nf : Nat} {nc : Nat} {lk : Int64} {ks : Nat} {gv : Nat → Int32} {gu : Nat → Int32} {gk : Nat → Int32} {gm : Nat → Int32} {gc : Nat → Int64} {gw : Nat → Int32} {gl : Nat → Int32} {gh : Nat → Int32} {gt : Nat → Int64} {gy : Nat → Int32} {gq : Nat → Int32} {ge1 : Nat → Int32} {gn1 : Nat → Int32} {gp1 : Nat → Int32} {gs : Nat → Int32} {gx1 : Nat → Int32} {gx2 : Nat → Int32} {gx3 : Nat → Int32} {ln : Nat → Nat} {fz : Nat → Nat} {sq : Nat → Nat} (h : zIM cy f o wev wnb wki wmy wce wiw wli wha wwt wfy wfk wem wna wpl whs wk1 wk2 wk3 u1 u2 u3 nl nn nf nc lk ks gv gu gk gm gc gw gl gh gt gy gq ge1 gn1 gp1 gs gx1 gx2 gx3 ln fz sq) : ∀ i, i < nf → fz i ≤ 4 := by
  obtain ⟨_, _, _, _, _, _, _, _, _, _, _, _, _, _, _, _, _, _, _, hn60, hl12, hf6, hc60, hs40, hMP, hgy, hfz, hgs, hME, hlk, hgw, hfd, n_wki_wmy, n_wki_wiw, n_wki_wli, n_wki_wha, n_wki_wem, n_wki_wna, n_wki_wpl, n_wmy_wiw, n_wmy_wli, n_wmy_wha, n_wmy_wem, n_wmy_wna, n_wmy_wpl, n_wiw_wli, n_wiw_wha, n_wiw_wem, n_wiw_wna, n_wiw_wpl, n_wli_wha, n_wli_wem, n_wli_wna, n_wli_wpl, n_wha_wem, n_wha_wna, n_wha_wpl, n_wem_wna, n_wem_wpl, n_wna_wpl, n_wk1_wk2, n_wk1_wk3, n_wk2_wk3⟩ := h
  exact hfz
theorem zIM_n60 {cy : Nat → ClassId} {f : zM} {o : Nat} {wev : Nat} {wnb : Nat} {wki : Nat} {wmy : Nat} {wce : Nat} {wiw : Nat} {wli : Nat} {wha : Nat} {wwt : Nat} {wfy : Nat} {wfk : Nat} {wem : Nat} {wna : Nat} {wpl : Nat} {whs : Nat} {wk1 : Nat} {wk2 : Nat} {wk3 : Nat} {u1 : Int32} {u2 : Int32} {u3 : Int32} {nl : Nat} {nn : Nat} {nf : Nat} {nc : Nat} {lk : Int64} {ks : Nat} {gv : Nat → Int32} {gu : Nat → Int32} {gk : Nat → Int32} {gm : Nat → Int32} {gc : Nat → Int64} {gw : Nat → Int32} {gl : Nat → Int32} {gh : Nat → Int32} {gt : Nat → Int64} {gy : Nat → Int32} {gq : Nat → Int32} {ge1 : Nat → Int32} {gn1 : Nat → Int32} {gp1 : Nat → Int32} {gs : Nat → Int32} {gx1 : Nat → Int32} {gx2 : Nat → Int32} {gx3 : Nat → Int32} {ln : Nat → Nat} {fz : Nat → Nat} {sq : Nat → Nat} (h : zIM cy f o wev wnb wki wmy wce wiw wli wha wwt wfy wfk wem wna wpl whs wk1 wk2 wk3 u1 u2 u3 nl nn nf nc lk ks gv gu gk gm gc gw gl gh gt gy gq ge1 gn1 gp1 gs gx1 gx2 gx3 ln fz sq) : nn ≤ 60 := by
  obtain ⟨_, _, _, _, _, _, _, _, _, _, _, _, _, _, _, _, _, _, _, hn60, hl12, hf6, hc60, hs40, hMP, hgy, hfz, hgs, hME, hlk, hgw, hfd, n_wki_wmy, n_wki_wiw, n_wki_wli, n_wki_wha, n_wki_wem, n_wki_wna, n_wki_wpl, n_wmy_wiw, n_wmy_wli, n_wmy_wha, n_wmy_wem, n_wmy_wna, n_wmy_wpl, n_wiw_wli, n_wiw_wha, n_wiw_wem, n_wiw_wna, n_wiw_wpl, n_wli_wha, n_wli_wem, n_wli_wna, n_wli_wpl, n_wha_wem, n_wha_wna, n_wha_wpl, n_wem_wna, n_wem_wpl, n_wna_wpl, n_wk1_wk2, n_wk1_wk3, n_wk2_wk3⟩ := h
  exact hn60
theorem zIM_f60 {cy : Nat → ClassId} {f : zM} {o : Nat} {wev : Nat} {wnb : Nat} {wki : Nat} {wmy : Nat} {wce : Nat} {wiw : Nat} {wli : Nat} {wha : Nat} {wwt : Nat} {wfy : Nat} {wfk : Nat} {wem : Nat} {wna : Nat} {wpl : Nat} {whs : Nat} {wk1 : Nat} {wk2 : Nat} {wk3 : Nat} {u1 : Int32} {u2 : Int32} {u3 : Int32} {nl : Nat} {nn : Nat} {nf : Nat} {nc : Nat} {lk : Int64} {ks : Nat} {gv : Nat → Int32} {gu : Nat → Int32} {gk : Nat → Int32} {gm : Nat → Int32} {gc : Nat → Int64} {gw : Nat → Int32} {gl : Nat → Int32} {gh : Nat → Int32} {gt : Nat → Int64} {gy : Nat → Int32} {gq : Nat → Int32} {ge1 : Nat → Int32} {gn1 : Nat → Int32} {gp1 : Nat → Int32} {gs : Nat → Int32} {gx1 : Nat → Int32} {gx2 : Nat → Int32} {gx3 : Nat → Int32} {ln : Nat → Nat} {fz : Nat → Nat} {sq : Nat → Nat} (h : zIM cy f o wev wnb wki wmy wce wiw wli wha wwt wfy wfk wem wna wpl whs wk1 wk2 wk3 u1 u2 u3 nl nn nf nc lk ks gv gu gk gm gc gw gl gh gt gy gq ge1 gn1 gp1 gs gx1 gx2 gx3 ln fz sq) : nf ≤ 60 := by
  obtain ⟨_, _, _, _, _, _, _, _, _, _, _, _, _, _, _, _, _, _, _, hn60, hl12, hf6, hc60, hs40, hMP, hgy, hfz, hgs, hME, hlk, hgw, hfd, n_wki_wmy, n_wki_wiw, n_wki_wli, n_wki_wha, n_wki_wem, n_wki_wna, n_wki_wpl, n_wmy_wiw, n_wmy_wli, n_wmy_wha, n_wmy_wem, n_wmy_wna, n_wmy_wpl, n_wiw_wli, n_wiw_wha, n_wiw_wem, n_wiw_wna, n_wiw_wpl, n_wli_wha, n_wli_wem, n_wli_wna, n_wli_wpl, n_wha_wem, n_wha_wna, n_wha_wpl, n_wem_wna, n_wem_wpl, n_wna_wpl, n_wk1_wk2, n_wk1_wk3, n_wk2_wk3⟩ := h
  exact by omega
theorem zIM_c60 {cy : Nat → ClassId} {f : zM} {o : Nat} {wev : Nat} {wnb : Nat} {wki : Nat} {wmy : Nat} {wce : Nat} {wiw : Nat} {wli : Nat} {wha : Nat} {wwt : Nat} {wfy : Nat} {wfk : Nat} {wem : Nat} {wna : Nat} {wpl : Nat} {whs : Nat} {wk1 : Nat} {wk2 : Nat} {wk3 : Nat} {u1 : Int32} {u2 : Int32} {u3 : Int32} {nl : Nat} {nn : Nat} {nf : Nat} {nc : Nat} {lk : Int64} {ks : Nat} {gv : Nat → Int32} {gu : Nat → Int32} {gk : Nat → Int32} {gm : Nat → Int32} {gc : Nat → Int64} {gw : Nat → Int32} {gl : Nat → Int32} {gh : Nat → Int32} {gt : Nat → Int64} {gy : Nat → Int32} {gq : Nat → Int32} {ge1 : Nat → Int32} {gn1 : Nat → Int32} {gp1 : Nat → Int32} {gs : Nat → Int32} {gx1 : Nat → Int32} {gx2 : Nat → Int32} {gx3 : Nat → Int32} {ln : Nat → Nat} {fz : Nat → Nat} {sq : Nat → Nat} (h : zIM cy f o wev wnb wki wmy wce wiw wli wha wwt wfy wfk wem wna wpl whs wk1 wk2 wk3 u1 u2 u3 nl nn nf nc lk ks gv gu gk gm gc gw gl gh gt gy gq ge1 gn1 gp1 gs gx1 gx2 gx3 ln fz sq) : nc ≤ 60 := by
  obtain ⟨_, _, _, _, _, _, _, _, _, _, _, _, _, _, _, _, _, _, _, hn60, hl12, hf6, hc60, hs40, hMP, hgy, hfz, hgs, hME, hlk, hgw, hfd, n_wki_wmy, n_wki_wiw, n_wki_wli, n_wki_wha, n_wki_wem, n_wki_wna, n_wki_wpl, n_wmy_wiw, n_wmy_wli, n_wmy_wha, n_wmy_wem, n_wmy_wna, n_wmy_wpl, n_wiw_wli, n_wiw_wha, n_wiw_wem, n_wiw_wna, n_wiw_wpl, n_wli_wha, n_wli_wem, n_wli_wna, n_wli_wpl, n_wha_wem, n_wha_wna, n_wha_wpl, n_wem_wna, n_wem_wpl, n_wna_wpl, n_wk1_wk2, n_wk1_wk3, n_wk2_wk3⟩ := h
  exact hc60
theorem zIM_s40 {cy : Nat → ClassId} {f : zM} {o : Nat} {wev : Nat} {wnb : Nat} {wki : Nat} {wmy : Nat} {wce : Nat} {wiw : Nat} {wli : Nat} {wha : Nat} {wwt : Nat} {wfy : Nat} {wfk : Nat} {wem : Nat} {wna : Nat} {wpl : Nat} {whs : Nat} {wk1 : Nat} {wk2 : Nat} {wk3 : Nat} {u1 : Int32} {u2 : Int32} {u3 : Int32} {nl : Nat} {nn : Nat} {nf : Nat} {nc : Nat} {lk : Int64} {ks : Nat} {gv : Nat → Int32} {gu : Nat → Int32} {gk : Nat → Int32} {gm : Nat → Int32} {gc : Nat → Int64} {gw : Nat → Int32} {gl : Nat → Int32} {gh : Nat → Int32} {gt : Nat → Int64} {gy : Nat → Int32} {gq : Nat → Int32} {ge1 : Nat → Int32} {gn1 : Nat → Int32} {gp1 : Nat → Int32} {gs : Nat → Int32} {gx1 : Nat → Int32} {gx2 : Nat → Int32} {gx3 : Nat → Int32} {ln : Nat → Nat} {fz : Nat → Nat} {sq : Nat → Nat} (h : zIM cy f o wev wnb wki wmy wce wiw wli wha wwt wfy wfk wem wna wpl whs wk1 wk2 wk3 u1 u2 u3 nl nn nf nc lk ks gv gu gk gm gc gw gl gh gt gy gq ge1 gn1 gp1 gs gx1 gx2 gx3 ln fz sq) : ks ≤ 40 := by
  obtain ⟨_, _, _, _, _, _, _, _, _, _, _, _, _, _, _, _, _, _, _, hn60, hl12, hf6, hc60, hs40, hMP, hgy, hfz, hgs, hME, hlk, hgw, hfd, n_wki_wmy, n_wki_wiw, n_wki_wli, n_wki_wha, n_wki_wem, n_wki_wna, n_wki_wpl, n_wmy_wiw, n_wmy_wli, n_wmy_wha, n_wmy_wem, n_wmy_wna, n_wmy_wpl, n_wiw_wli, n_wiw_wha, n_wiw_wem, n_wiw_wna, n_wiw_wpl, n_wli_wha, n_wli_wem, n_wli_wna, n_wli_wpl, n_wha_wem, n_wha_wna, n_wha_wpl, n_wem_wna, n_wem_wpl, n_wna_wpl, n_wk1_wk2, n_wk1_wk3, n_wk2_wk3⟩ := h
  exact hs40
theorem zIM_ME {cy : Nat → ClassId} {f : zM} {o : Nat} {wev : Nat} {wnb : Nat} {wki : Nat} {wmy : Nat} {wce : Nat} {wiw : Nat} {wli : Nat} {wha : Nat} {wwt : Nat} {wfy : Nat} {wfk : Nat} {wem : Nat} {wna : Nat} {wpl : Nat} {whs : Nat} {wk1 : Nat} {wk2 : Nat} {wk3 : Nat} {u1 : Int32} {u2 : Int32} {u3 : Int32} {nl : Nat} {nn : Nat} {nf : Nat} {nc : Nat} {lk : Int64} {ks : Nat} {gv : Nat → Int32} {gu : Nat → Int32} {gk : Nat → Int32} {gm : Nat → Int32} {gc : Nat → Int64} {gw : Nat → Int32} {gl : Nat → Int32} {gh : Nat → Int32} {gt : Nat → Int64} {gy : Nat → Int32} {gq : Nat → Int32} {ge1 : Nat → Int32} {gn1 : Nat → Int32} {gp1 : Nat → Int32} {gs : Nat → Int32} {gx1 : Nat → Int32} {gx2 : Nat → Int32} {gx3 : Nat → Int32} {ln : Nat → Nat} {fz : Nat → Nat} {sq : Nat → Nat} (h : zIM cy f o wev wnb wki wmy wce wiw wli wha wwt wfy wfk wem wna wpl whs wk1 wk2 wk3 u1 u2 u3 nl nn nf nc lk ks gv gu gk gm gc gw gl gh gt gy gq ge1 gn1 gp1 gs gx1 gx2 gx3 ln fz sq) : zME nc ge1 gp1 sq := by
  obtain ⟨_, _, _, _, _, _, _, _, _, _, _, _, _, _, _, _, _, _, _, hn60, hl12, hf6, hc60, hs40, hMP, hgy, hfz, hgs, hME, hlk, hgw, hfd, n_wki_wmy, n_wki_wiw, n_wki_wli, n_wki_wha, n_wki_wem, n_wki_wna, n_wki_wpl, n_wmy_wiw, n_wmy_wli, n_wmy_wha, n_wmy_wem, n_wmy_wna, n_wmy_wpl, n_wiw_wli, n_wiw_wha, n_wiw_wem, n_wiw_wna, n_wiw_wpl, n_wli_wha, n_wli_wem, n_wli_wna, n_wli_wpl, n_wha_wem, n_wha_wna, n_wha_wpl, n_wem_wna, n_wem_wpl, n_wna_wpl, n_wk1_wk2, n_wk1_wk3, n_wk2_wk3⟩ := h
  exact hME
/-- both states, apart in the heap, with what they share -/
def zLI (D : va_G) (cy : Nat → ClassId) (s : State) (o mo : Nat) (H : Heap) : Prop := ∃ (fX fM : zM) (fa : Nat) (fi : Nat) (nu : Nat) (fm : Nat) (co : Nat) (en : Nat) (ke : Nat) (ev : Nat) (al : Nat) (ra : Nat) (kn : Nat) (vq : Nat) (ge : Nat → Option Nat) (ea : Nat → Nat) (ma : Nat → Nat) (u1 : Int32) (u2 : Int32) (u3 : Int32) (gv : Nat → Int32) (nl : Nat) (gu : Nat → Int32) (nn : Nat) (ga : Nat → Option Nat) (gr : Nat → Option Nat) (fg : Nat → Nat) (pt : Nat → Nat) (kd : Nat → Int32) (ln : Nat → Nat) (pp : Nat → Nat → Int64) (wg : Nat → Int64) (wd : Nat → Int32) (hs : Nat → Int32) (bf : Nat → Int32) (nf : Nat) (gf : Nat → Option Nat) (fq : Nat → Nat) (fk : Nat → Nat) (fz : Nat → Nat) (fc : Nat → Nat → Int32) (nc : Nat) (gc : Nat → Option Nat) (cn : Nat → Nat) (ce : Nat → Int32) (cm : Nat → Int32) (sq : Nat → Nat) (mb : Nat → Nat → Int32) (ks : Nat) (kk : Nat → Int32) (kv : Nat → Int32) (lk : Int64) (m_wev : Nat) (m_wnb : Nat) (m_wki : Nat) (m_wmy : Nat) (m_wce : Nat) (m_wiw : Nat) (m_wli : Nat) (m_wha : Nat) (m_wwt : Nat) (m_wfy : Nat) (m_wfk : Nat) (m_wem : Nat) (m_wna : Nat) (m_wpl : Nat) (m_whs : Nat) (m_wk1 : Nat) (m_wk2 : Nat) (m_wk3 : Nat) (m_u1 : Int32) (m_u2 : Int32) (m_u3 : Int32) (m_nl : Nat) (m_nn : Nat) (m_nf : Nat) (m_nc : Nat) (m_lk : Int64) (m_ks : Nat) (m_gv : Nat → Int32) (m_gu : Nat → Int32) (m_gk : Nat → Int32) (m_gm : Nat → Int32) (m_gc : Nat → Int64) (m_gw : Nat → Int32) (m_gl : Nat → Int32) (m_gh : Nat → Int32) (m_gt : Nat → Int64) (m_gy : Nat → Int32) (m_gq : Nat → Int32) (m_ge1 : Nat → Int32) (m_gn1 : Nat → Int32) (m_gp1 : Nat → Int32) (m_gs : Nat → Int32) (m_gx1 : Nat → Int32) (m_gx2 : Nat → Int32) (m_gx3 : Nat → Int32) (m_ln : Nat → Nat) (m_fz : Nat → Nat) (m_sq : Nat → Nat), zIX cy fX o fa fi nu fm co en ke ev al ra kn vq ge ea ma u1 u2 u3 gv nl gu nn ga gr fg pt kd ln pp wg wd hs bf nf gf fq fk fz fc nc gc cn ce cm sq mb ks kk kv lk ∧ zIM cy fM mo m_wev m_wnb m_wki m_wmy m_wce m_wiw m_wli m_wha m_wwt m_wfy m_wfk m_wem m_wna m_wpl m_whs m_wk1 m_wk2 m_wk3 m_u1 m_u2 m_u3 m_nl m_nn m_nf m_nc m_lk m_ks m_gv m_gu m_gk m_gm m_gc m_gw m_gl m_gh m_gt m_gy m_gq m_ge1 m_gn1 m_gp1 m_gs m_gx1 m_gx2 m_gx3 m_ln m_fz m_sq ∧ zH D (zLA s) fX H ∧ zH D (zLA s) fM H ∧ (∀ a e, fM a = some e → fX a = none) ∧ m_u1 = u1 ∧ m_u2 = u2 ∧ m_u3 = u3 ∧ m_gv = gv ∧ m_nl = nl ∧ m_gu = gu ∧ m_nn = nn ∧ m_gk = kd ∧ m_gw = wd ∧ m_ln = ln ∧ m_gh = hs ∧ m_nf = nf ∧ m_fz = fz ∧ m_nc = nc ∧ m_ge1 = ce ∧ m_gn1 = cm ∧ m_sq = sq ∧ m_lk = lk ∧ m_ks = ks ∧ m_gx3 = kv ∧ zPC nn ln pp m_gc ∧ zFF nf fz fc m_gq ∧ zRE nc ce cm sq mb m_gp1 ∧ zKR ks kk m_gx1 m_gx2
theorem z_LI {D : va_G} {cy : Nat → ClassId} {s : State} {H : Heap} {fX fM : zM} {o : Nat} {fa : Nat} {fi : Nat} {nu : Nat} {fm : Nat} {co : Nat} {en : Nat} {ke : Nat} {ev : Nat} {al : Nat} {ra : Nat} {kn : Nat} {vq : Nat} {ge : Nat → Option Nat} {ea : Nat → Nat} {ma : Nat → Nat} {u1 : Int32} {u2 : Int32} {u3 : Int32} {gv : Nat → Int32} {nl : Nat} {gu : Nat → Int32} {nn : Nat} {ga : Nat → Option Nat} {gr : Nat → Option Nat} {fg : Nat → Nat} {pt : Nat → Nat} {kd : Nat → Int32} {ln : Nat → Nat} {pp : Nat → Nat → Int64} {wg : Nat → Int64} {wd : Nat → Int32} {hs : Nat → Int32} {bf : Nat → Int32} {nf : Nat} {gf : Nat → Option Nat} {fq : Nat → Nat} {fk : Nat → Nat} {fz : Nat → Nat} {fc : Nat → Nat → Int32} {nc : Nat} {gc : Nat → Option Nat} {cn : Nat → Nat} {ce : Nat → Int32} {cm : Nat → Int32} {sq : Nat → Nat} {mb : Nat → Nat → Int32} {ks : Nat} {kk : Nat → Int32} {kv : Nat → Int32} {lk : Int64} {m_o : Nat} {m_wev : Nat} {m_wnb : Nat} {m_wki : Nat} {m_wmy : Nat} {m_wce : Nat} {m_wiw : Nat} {m_wli : Nat} {m_wha : Nat} {m_wwt : Nat} {m_wfy : Nat} {m_wfk : Nat} {m_wem : Nat} {m_wna : Nat} {m_wpl : Nat} {m_whs : Nat} {m_wk1 : Nat} {m_wk2 : Nat} {m_wk3 : Nat} {m_u1 : Int32} {m_u2 : Int32} {m_u3 : Int32} {m_nl : Nat} {m_nn : Nat} {m_nf : Nat} {m_nc : Nat} {m_lk : Int64} {m_ks : Nat} {m_gv : Nat → Int32} {m_gu : Nat → Int32} {m_gk : Nat → Int32} {m_gm : Nat → Int32} {m_gc : Nat → Int64} {m_gw : Nat → Int32} {m_gl : Nat → Int32} {m_gh : Nat → Int32} {m_gt : Nat → Int64} {m_gy : Nat → Int32} {m_gq : Nat → Int32} {m_ge1 : Nat → Int32} {m_gn1 : Nat → Int32} {m_gp1 : Nat → Int32} {m_gs : Nat → Int32} {m_gx1 : Nat → Int32} {m_gx2 : Nat → Int32} {m_gx3 : Nat → Int32} {m_ln : Nat → Nat} {m_fz : Nat → Nat} {m_sq : Nat → Nat} (h1 : zIX cy fX o fa fi nu fm co en ke ev al ra kn vq ge ea ma u1 u2 u3 gv nl gu nn ga gr fg pt kd ln pp wg wd hs bf nf gf fq fk fz fc nc gc cn ce cm sq mb ks kk kv lk) (h2 : zIM cy fM m_o m_wev m_wnb m_wki m_wmy m_wce m_wiw m_wli m_wha m_wwt m_wfy m_wfk m_wem m_wna m_wpl m_whs m_wk1 m_wk2 m_wk3 m_u1 m_u2 m_u3 m_nl m_nn m_nf m_nc m_lk m_ks m_gv m_gu m_gk m_gm m_gc m_gw m_gl m_gh m_gt m_gy m_gq m_ge1 m_gn1 m_gp1 m_gs m_gx1 m_gx2 m_gx3 m_ln m_fz m_sq) (h3 : zH D (zLA s) fX H) (h4 : zH D (zLA s) fM H) (h5 : ∀ a e, fM a = some e → fX a = none) (h6 : m_u1 = u1 ∧ m_u2 = u2 ∧ m_u3 = u3 ∧ m_gv = gv ∧ m_nl = nl ∧ m_gu = gu ∧ m_nn = nn ∧ m_gk = kd ∧ m_gw = wd ∧ m_ln = ln ∧ m_gh = hs ∧ m_nf = nf ∧ m_fz = fz ∧ m_nc = nc ∧ m_ge1 = ce ∧ m_gn1 = cm ∧ m_sq = sq ∧ m_lk = lk ∧ m_ks = ks ∧ m_gx3 = kv ∧ zPC nn ln pp m_gc ∧ zFF nf fz fc m_gq ∧ zRE nc ce cm sq mb m_gp1 ∧ zKR ks kk m_gx1 m_gx2) : zLI D cy s o m_o H :=
  ⟨fX, fM, fa, fi, nu, fm, co, en, ke, ev, al, ra, kn, vq, ge, ea, ma, u1, u2, u3, gv, nl, gu, nn, ga, gr, fg, pt, kd, ln, pp, wg, wd, hs, bf, nf, gf, fq, fk, fz, fc, nc, gc, cn, ce, cm, sq, mb, ks, kk, kv, lk, m_wev, m_wnb, m_wki, m_wmy, m_wce, m_wiw, m_wli, m_wha, m_wwt, m_wfy, m_wfk, m_wem, m_wna, m_wpl, m_whs, m_wk1, m_wk2, m_wk3, m_u1, m_u2, m_u3, m_nl, m_nn, m_nf, m_nc, m_lk, m_ks, m_gv, m_gu, m_gk, m_gm, m_gc, m_gw, m_gl, m_gh, m_gt, m_gy, m_gq, m_ge1, m_gn1, m_gp1, m_gs, m_gx1, m_gx2, m_gx3, m_ln, m_fz, m_sq, h1, h2, h3, h4, h5, h6⟩
set_option maxHeartbeats 4000000 in
set_option maxRecDepth 100000 in
theorem law_case_0 {p : Program} {l : Launch} {e : Env} {s : State} {m : MethodId} {below : List Frame} {meth : Method} {c : Code} {D : va_G} {cy : Nat → ClassId} {b L : Nat} {xs : Nat → Int32} {o mo j : Nat} (C : zC D cy p s m #[Value.ref b] meth c RL cL_law 4) (hXs : va_X b L xs s s.heap) (hbl : b < s.heap.size) (hbA : ¬ zLA s b) (hL : L ≤ 2560) (hj : 5 * j + 5 ≤ L) (fin : ∀ (H : Heap) (locs : List Loc) (ls : Array Slot), zLI D cy s o mo H → va_S (zLA s) s.heap H locs → lv_has ls 4 [(0, .ref b), (1, .ref o), (2, .ref mo), (3, .int (nI (5 * j)))] → W p l e room_1 s m #[Value.ref b] below meth c H locs (100 + 10 * (j + 1)) (3000 + 60 * (j + 1)) (lw_Z below #[Value.ref b] s) (F0 m 1358 ls [])) {H : Heap} {locs : List Loc} {ls : Array Slot} (hLI : zLI D cy s o mo H) (hS : va_S (zLA s) s.heap H locs) (hl : lv_has ls 4 [(0, .ref b), (1, .ref o), (2, .ref mo), (3, .int (nI (5 * j)))]) : W p l e room_1 s m #[Value.ref b] below meth c H locs (100 + 10 * j) (3000 + 60 * j) (lw_Z below #[Value.ref b] s) (F0 m 184 ls []) := by
  have hx := C.1
  have hb := C.2.1
  have hA : ∀ q, s.heap.size ≤ q → zLA s q := fun q h => h
  refine Exists.elim hLI fun fX h90 => h90.elim fun fM h91 => h91.elim fun fa h92 => h92.elim fun fi h93 => h93.elim fun nu h94 => h94.elim fun fm h95 => h95.elim fun co h96 => h96.elim fun en h97 => h97.elim fun ke h98 => h98.elim fun ev h99 => h99.elim fun al h910 => h910.elim fun ra h911 => h911.elim fun kn h912 => h912.elim fun vq h913 => h913.elim fun ge h914 => h914.elim fun ea h915 => h915.elim fun ma h916 => h916.elim fun u1 h917 => h917.elim fun u2 h918 => h918.elim fun u3 h919 => h919.elim fun gv h920 => h920.elim fun nl h921 => h921.elim fun gu h922 => h922.elim fun nn h923 => h923.elim fun ga h924 => h924.elim fun gr h925 => h925.elim fun fg h926 => h926.elim fun pt h927 => h927.elim fun kd h928 => h928.elim fun ln h929 => h929.elim fun pp h930 => h930.elim fun wg h931 => h931.elim fun wd h932 => h932.elim fun hs h933 => h933.elim fun bf h934 => h934.elim fun nf h935 => h935.elim fun gf h936 => h936.elim fun fq h937 => h937.elim fun fk h938 => h938.elim fun fz h939 => h939.elim fun fc h940 => h940.elim fun nc h941 => h941.elim fun gc h942 => h942.elim fun cn h943 => h943.elim fun ce h944 => h944.elim fun cm h945 => h945.elim fun sq h946 => h946.elim fun mb h947 => h947.elim fun ks h948 => h948.elim fun kk h949 => h949.elim fun kv h950 => h950.elim fun lk h951 => h951.elim fun m_wev h952 => h952.elim fun m_wnb h953 => h953.elim fun m_wki h954 => h954.elim fun m_wmy h955 => h955.elim fun m_wce h956 => h956.elim fun m_wiw h957 => h957.elim fun m_wli h958 => h958.elim fun m_wha h959 => h959.elim fun m_wwt h960 => h960.elim fun m_wfy h961 => h961.elim fun m_wfk h962 => h962.elim fun m_wem h963 => h963.elim fun m_wna h964 => h964.elim fun m_wpl h965 => h965.elim fun m_whs h966 => h966.elim fun m_wk1 h967 => h967.elim fun m_wk2 h968 => h968.elim fun m_wk3 h969 => h969.elim fun m_u1 h970 => h970.elim fun m_u2 h971 => h971.elim fun m_u3 h972 => h972.elim fun m_nl h973 => h973.elim fun m_nn h974 => h974.elim fun m_nf h975 => h975.elim fun m_nc h976 => h976.elim fun m_lk h977 => h977.elim fun m_ks h978 => h978.elim fun m_gv h979 => h979.elim fun m_gu h980 => h980.elim fun m_gk h981 => h981.elim fun m_gm h982 => h982.elim fun m_gc h983 => h983.elim fun m_gw h984 => h984.elim fun m_gl h985 => h985.elim fun m_gh h986 => h986.elim fun m_gt h987 => h987.elim fun m_gy h988 => h988.elim fun m_gq h989 => h989.elim fun m_ge1 h990 => h990.elim fun m_gn1 h991 => h991.elim fun m_gp1 h992 => h992.elim fun m_gs h993 => h993.elim fun m_gx1 h994 => h994.elim fun m_gx2 h995 => h995.elim fun m_gx3 h996 => h996.elim fun m_ln h997 => h997.elim fun m_fz h998 => h998.elim fun m_sq h999 => ?_
  clear hLI h90 h91 h92 h93 h94 h95 h96 h97 h98 h99 h910 h911 h912 h913 h914 h915 h916 h917 h918 h919 h920 h921 h922 h923 h924 h925 h926 h927 h928 h929 h930 h931 h932 h933 h934 h935 h936 h937 h938 h939 h940 h941 h942 h943 h944 h945 h946 h947 h948 h949 h950 h951 h952 h953 h954 h955 h956 h957 h958 h959 h960 h961 h962 h963 h964 h965 h966 h967 h968 h969 h970 h971 h972 h973 h974 h975 h976 h977 h978 h979 h980 h981 h982 h983 h984 h985 h986 h987 h988 h989 h990 h991 h992 h993 h994 h995 h996 h997 h998
  obtain ⟨hIX, hIM, hzx, hzm, hd, rfl, rfl, rfl, rfl, rfl, rfl, rfl, rfl, rfl, rfl, rfl, rfl, rfl, rfl, rfl, rfl, rfl, rfl, rfl, rfl, hPC, hFF, hRE, hKR⟩ := h999
  have hl15 := zIM_ln hIM
  have hfz4 := zIM_fz hIM
  have hn60 := zIM_n60 hIM
  have hf60 := zIM_f60 hIM
  have hc60 := zIM_c60 hIM
  have hs40 := zIM_s40 hIM
  refine lv_aload_n hx hb dL_law_184 rfl (lv_at hl 1 rfl) ?_
  refine lv_aload_n hx hb dL_law_185 rfl (lv_at hl 0 rfl) ?_
  refine lv_iload_n hx hb dL_law_186 rfl (lv_at hl 3 rfl) ?_
  refine lv_iconst (v := 1) hx hb dL_law_187 (by decide) ?_
  refine lv_iadd hx hb dL_law_188 ?_
  refine lv_topi (fun y1 e2 => ?_)
  obtain rfl : y1 = nI (5 * j + 1) := e2.trans (nI_add (5 * j) 1)
  refine z_sld (5 * j + 1) hx hb hXs hbl hbA hS rfl (by omega) (by omega) dL_law_189 ?_
  refine z_callVi2 (As := [.int (xs (5 * j + 1))]) C hzx hS hA hl (k_X7_cause l D cy fX o fa fi nu fm co en ke ev al ra kn vq ge ea ma m_u1 m_u2 m_u3 m_gv m_nl m_gu m_nn ga gr fg pt m_gk m_ln pp wg m_gw m_gh bf m_nf gf fq fk m_fz fc m_nc gc cn m_ge1 m_gn1 m_sq mb m_ks kk m_gx3 m_lk (xs (5 * j + 1))  hIX) zyX7_cause mML_13 hIX.1 zl7 rfl rfl (Nat.le_of_ble_eq_true rfl) ⟨Nat.le_of_ble_eq_true rfl, Nat.le_of_ble_eq_true rfl⟩ ⟨show 100 + 10 * j + 0 ≤ 600000 by omega, show 3000 + 60 * j + 0 ≤ 7302249 by omega⟩ dL_law_190 (fun r f1 H locs hp hz1 hS hfr => ?_)
  clear hIX
  refine hp.elim fun v3 h90 => h90.elim fun v4 h91 => h91.elim fun v5 h92 => h92.elim fun v6 h93 => h93.elim fun v7 h94 => h94.elim fun v8 h95 => h95.elim fun v9 h96 => h96.elim fun v10 h97 => h97.elim fun v11 h98 => h98.elim fun v12 h99 => h99.elim fun v13 h910 => h910.elim fun v14 h911 => h911.elim fun v15 h912 => h912.elim fun v16 h913 => h913.elim fun v17 h914 => h914.elim fun v18 h915 => h915.elim fun v19 h916 => h916.elim fun v20 h917 => h917.elim fun v21 h918 => h918.elim fun v22 h919 => h919.elim fun v23 h920 => h920.elim fun v24 h921 => h921.elim fun v25 h922 => h922.elim fun v26 h923 => h923.elim fun v27 h924 => h924.elim fun v28 h925 => h925.elim fun v29 h926 => h926.elim fun v30 h927 => h927.elim fun v31 h928 => h928.elim fun v32 h929 => h929.elim fun v33 h930 => h930.elim fun v34 h931 => h931.elim fun v35 h932 => h932.elim fun v36 h933 => h933.elim fun v37 h934 => ?_
  clear hp h90 h91 h92 h93 h94 h95 h96 h97 h98 h99 h910 h911 h912 h913 h914 h915 h916 h917 h918 h919 h920 h921 h922 h923 h924 h925 h926 h927 h928 h929 h930 h931 h932 h933
  obtain ⟨rfl, e38, e39, e40, e41, e42, e43, e44, e45, e46, e47, e48, e49, e50, e51, e52, e53, e54, e55, e56, e57, e58, e59, e60, e61, hIX⟩ := h934
  obtain ⟨hzm, hd⟩ := hfr fM hzm hd
  have hzx := hz1
  clear hz1 hfr
  obtain ⟨fX, hfx9⟩ : ∃ g : zM, g = f1 := ⟨_, rfl⟩
  rw [← hfx9] at hIX hd hzx
  clear hfx9
  refine lv_pop hx hb dL_law_193 rfl ?_
  refine lv_aload_n hx hb dL_law_194 rfl (lv_at hl 2 rfl) ?_
  refine lv_aload_n hx hb dL_law_195 rfl (lv_at hl 0 rfl) ?_
  refine lv_iload_n hx hb dL_law_196 rfl (lv_at hl 3 rfl) ?_
  refine lv_iconst (v := 1) hx hb dL_law_197 (by decide) ?_
  refine lv_iadd hx hb dL_law_198 ?_
  refine lv_topi (fun y62 e63 => ?_)
  obtain rfl : y62 = nI (5 * j + 1) := e63.trans (nI_add (5 * j) 1)
  refine z_sld (5 * j + 1) hx hb hXs hbl hbA hS rfl (by omega) (by omega) dL_law_199 ?_
  refine z_callVi2 (As := [.int (xs (5 * j + 1))]) C hzm hS hA hl (k_X8_cause l D cy fM mo m_wev m_wnb m_wki m_wmy m_wce m_wiw m_wli m_wha m_wwt m_wfy m_wfk m_wem m_wna m_wpl m_whs m_wk1 m_wk2 m_wk3 m_u1 m_u2 m_u3 m_nl m_nn m_nf m_nc m_lk m_ks m_gv m_gu m_gk m_gm m_gc m_gw m_gl m_gh m_gt m_gy m_gq m_ge1 m_gn1 m_gp1 m_gs m_gx1 m_gx2 m_gx3 m_ln m_fz m_sq (xs (5 * j + 1))  hIM) zyX8_cause mML_17 hIM.1 zl8 rfl rfl (Nat.le_of_ble_eq_true rfl) ⟨Nat.le_of_ble_eq_true rfl, Nat.le_of_ble_eq_true rfl⟩ ⟨show 100 + 10 * j + 0 + 0 ≤ 600000 by omega, show 3000 + 60 * j + 0 + 0 ≤ 7302249 by omega⟩ dL_law_200 (fun r f1 H locs hp hz1 hS hfr => ?_)
  clear hIM
  refine hp.elim fun w64 h90 => h90.elim fun w65 h91 => h91.elim fun w66 h92 => h92.elim fun w67 h93 => h93.elim fun w68 h94 => h94.elim fun w69 h95 => h95.elim fun w70 h96 => h96.elim fun w71 h97 => h97.elim fun w72 h98 => h98.elim fun w73 h99 => h99.elim fun w74 h910 => h910.elim fun w75 h911 => h911.elim fun w76 h912 => h912.elim fun w77 h913 => h913.elim fun w78 h914 => h914.elim fun w79 h915 => h915.elim fun w80 h916 => h916.elim fun w81 h917 => h917.elim fun w82 h918 => h918.elim fun w83 h919 => h919.elim fun w84 h920 => h920.elim fun w85 h921 => h921.elim fun w86 h922 => h922.elim fun w87 h923 => h923.elim fun w88 h924 => h924.elim fun w89 h925 => h925.elim fun w90 h926 => h926.elim fun w91 h927 => h927.elim fun w92 h928 => h928.elim fun w93 h929 => ?_
  clear hp h90 h91 h92 h93 h94 h95 h96 h97 h98 h99 h910 h911 h912 h913 h914 h915 h916 h917 h918 h919 h920 h921 h922 h923 h924 h925 h926 h927 h928
  obtain ⟨rfl, e94, e95, e96, e97, e98, e99, e100, e101, e102, e103, e104, e105, e106, e107, e108, e109, e110, e111, e112, e113, e114, e115, e116, e117, e118, hIM⟩ := h929
  obtain ⟨hzx, hd⟩ := hfr fX hzx (z_dsym hd)
  replace hd := z_dsym hd
  have hzm := hz1
  clear hz1 hfr
  obtain ⟨fM, hfm9⟩ : ∃ g : zM, g = f1 := ⟨_, rfl⟩
  rw [← hfm9] at hIM hd hzm
  clear hfm9
  refine lv_pop hx hb dL_law_203 rfl ?_
  refine lv_goto (tgt := 1358) hx hb dL_law_204 (by decide) ?_
  refine W.widen (k := 100 + 10 * (j + 1)) (n := 3000 + 60 * (j + 1)) (show 100 + 10 * j + 0 + 0 ≤ 100 + 10 * (j + 1) by omega) (show 3000 + 60 * j + 0 + 0 ≤ 3000 + 60 * (j + 1) by omega) ?_
  have hPC9 : zPC v9 v15 v16 w77 := by rw [e44, e46, e47, e105]; exact hPC
  have hFF9 : zFF v21 v25 v26 w83 := by rw [e50, e51, e52, e108]; exact hFF
  have hRE9 : zRE v27 v30 v31 v32 v33 w86 := by rw [e53, e54, e55, e56, e57, e112]; exact hRE
  have hKR8 : zKR v34 v35 w88 w89 := by rw [e58, e59, e115, e116]; exact hKR
  exact fin _ _ _ (z_LI hIX hIM hzx hzm hd ⟨(e94.trans e38.symm), (e95.trans e39.symm), (e96.trans e40.symm), (e97.trans e41.symm), (e98.trans e42.symm), (e99.trans e43.symm), (e100.trans e44.symm), (e101.trans e45.symm), (e103.trans e48.symm), (e102.trans e46.symm), (e104.trans e49.symm), (e106.trans e50.symm), (e107.trans e51.symm), (e109.trans e53.symm), (e110.trans e54.symm), (e111.trans e55.symm), (e113.trans e56.symm), (e118.trans e61.symm), (e114.trans e58.symm), (e117.trans e60.symm), hPC9, hFF9, hRE9, hKR8⟩) hS (lv_sub hl [0, 1, 2, 3] rfl)
set_option maxHeartbeats 4000000 in
set_option maxRecDepth 100000 in
theorem law_case_1 {p : Program} {l : Launch} {e : Env} {s : State} {m : MethodId} {below : List Frame} {meth : Method} {c : Code} {D : va_G} {cy : Nat → ClassId} {b L : Nat} {xs : Nat → Int32} {o mo j : Nat} (C : zC D cy p s m #[Value.ref b] meth c RL cL_law 4) (hXs : va_X b L xs s s.heap) (hbl : b < s.heap.size) (hbA : ¬ zLA s b) (hL : L ≤ 2560) (hj : 5 * j + 5 ≤ L) (fin : ∀ (H : Heap) (locs : List Loc) (ls : Array Slot), zLI D cy s o mo H → va_S (zLA s) s.heap H locs → lv_has ls 4 [(0, .ref b), (1, .ref o), (2, .ref mo), (3, .int (nI (5 * j)))] → W p l e room_1 s m #[Value.ref b] below meth c H locs (100 + 10 * (j + 1)) (3000 + 60 * (j + 1)) (lw_Z below #[Value.ref b] s) (F0 m 1358 ls [])) {H : Heap} {locs : List Loc} {ls : Array Slot} (hLI : zLI D cy s o mo H) (hS : va_S (zLA s) s.heap H locs) (hl : lv_has ls 4 [(0, .ref b), (1, .ref o), (2, .ref mo), (3, .int (nI (5 * j)))]) : W p l e room_1 s m #[Value.ref b] below meth c H locs (100 + 10 * j) (3000 + 60 * j) (lw_Z below #[Value.ref b] s) (F0 m 207 ls []) := by
  have hx := C.1
  have hb := C.2.1
  have hA : ∀ q, s.heap.size ≤ q → zLA s q := fun q h => h
  refine Exists.elim hLI fun fX h90 => h90.elim fun fM h91 => h91.elim fun fa h92 => h92.elim fun fi h93 => h93.elim fun nu h94 => h94.elim fun fm h95 => h95.elim fun co h96 => h96.elim fun en h97 => h97.elim fun ke h98 => h98.elim fun ev h99 => h99.elim fun al h910 => h910.elim fun ra h911 => h911.elim fun kn h912 => h912.elim fun vq h913 => h913.elim fun ge h914 => h914.elim fun ea h915 => h915.elim fun ma h916 => h916.elim fun u1 h917 => h917.elim fun u2 h918 => h918.elim fun u3 h919 => h919.elim fun gv h920 => h920.elim fun nl h921 => h921.elim fun gu h922 => h922.elim fun nn h923 => h923.elim fun ga h924 => h924.elim fun gr h925 => h925.elim fun fg h926 => h926.elim fun pt h927 => h927.elim fun kd h928 => h928.elim fun ln h929 => h929.elim fun pp h930 => h930.elim fun wg h931 => h931.elim fun wd h932 => h932.elim fun hs h933 => h933.elim fun bf h934 => h934.elim fun nf h935 => h935.elim fun gf h936 => h936.elim fun fq h937 => h937.elim fun fk h938 => h938.elim fun fz h939 => h939.elim fun fc h940 => h940.elim fun nc h941 => h941.elim fun gc h942 => h942.elim fun cn h943 => h943.elim fun ce h944 => h944.elim fun cm h945 => h945.elim fun sq h946 => h946.elim fun mb h947 => h947.elim fun ks h948 => h948.elim fun kk h949 => h949.elim fun kv h950 => h950.elim fun lk h951 => h951.elim fun m_wev h952 => h952.elim fun m_wnb h953 => h953.elim fun m_wki h954 => h954.elim fun m_wmy h955 => h955.elim fun m_wce h956 => h956.elim fun m_wiw h957 => h957.elim fun m_wli h958 => h958.elim fun m_wha h959 => h959.elim fun m_wwt h960 => h960.elim fun m_wfy h961 => h961.elim fun m_wfk h962 => h962.elim fun m_wem h963 => h963.elim fun m_wna h964 => h964.elim fun m_wpl h965 => h965.elim fun m_whs h966 => h966.elim fun m_wk1 h967 => h967.elim fun m_wk2 h968 => h968.elim fun m_wk3 h969 => h969.elim fun m_u1 h970 => h970.elim fun m_u2 h971 => h971.elim fun m_u3 h972 => h972.elim fun m_nl h973 => h973.elim fun m_nn h974 => h974.elim fun m_nf h975 => h975.elim fun m_nc h976 => h976.elim fun m_lk h977 => h977.elim fun m_ks h978 => h978.elim fun m_gv h979 => h979.elim fun m_gu h980 => h980.elim fun m_gk h981 => h981.elim fun m_gm h982 => h982.elim fun m_gc h983 => h983.elim fun m_gw h984 => h984.elim fun m_gl h985 => h985.elim fun m_gh h986 => h986.elim fun m_gt h987 => h987.elim fun m_gy h988 => h988.elim fun m_gq h989 => h989.elim fun m_ge1 h990 => h990.elim fun m_gn1 h991 => h991.elim fun m_gp1 h992 => h992.elim fun m_gs h993 => h993.elim fun m_gx1 h994 => h994.elim fun m_gx2 h995 => h995.elim fun m_gx3 h996 => h996.elim fun m_ln h997 => h997.elim fun m_fz h998 => h998.elim fun m_sq h999 => ?_
  clear hLI h90 h91 h92 h93 h94 h95 h96 h97 h98 h99 h910 h911 h912 h913 h914 h915 h916 h917 h918 h919 h920 h921 h922 h923 h924 h925 h926 h927 h928 h929 h930 h931 h932 h933 h934 h935 h936 h937 h938 h939 h940 h941 h942 h943 h944 h945 h946 h947 h948 h949 h950 h951 h952 h953 h954 h955 h956 h957 h958 h959 h960 h961 h962 h963 h964 h965 h966 h967 h968 h969 h970 h971 h972 h973 h974 h975 h976 h977 h978 h979 h980 h981 h982 h983 h984 h985 h986 h987 h988 h989 h990 h991 h992 h993 h994 h995 h996 h997 h998
  obtain ⟨hIX, hIM, hzx, hzm, hd, rfl, rfl, rfl, rfl, rfl, rfl, rfl, rfl, rfl, rfl, rfl, rfl, rfl, rfl, rfl, rfl, rfl, rfl, rfl, rfl, hPC, hFF, hRE, hKR⟩ := h999
  have hl15 := zIM_ln hIM
  have hfz4 := zIM_fz hIM
  have hn60 := zIM_n60 hIM
  have hf60 := zIM_f60 hIM
  have hc60 := zIM_c60 hIM
  have hs40 := zIM_s40 hIM
  refine lv_aload_n hx hb dL_law_207 rfl (lv_at hl 1 rfl) ?_
  refine lv_aload_n hx hb dL_law_208 rfl (lv_at hl 0 rfl) ?_
  refine lv_iload_n hx hb dL_law_209 rfl (lv_at hl 3 rfl) ?_
  refine lv_iconst (v := 1) hx hb dL_law_210 (by decide) ?_
  refine lv_iadd hx hb dL_law_211 ?_
  refine lv_topi (fun y1 e2 => ?_)
  obtain rfl : y1 = nI (5 * j + 1) := e2.trans (nI_add (5 * j) 1)
  refine z_sld (5 * j + 1) hx hb hXs hbl hbA hS rfl (by omega) (by omega) dL_law_212 ?_
  refine z_callVi2 (As := [.int (xs (5 * j + 1))]) C hzx hS hA hl (k_X7_lay l D cy fX o fa fi nu fm co en ke ev al ra kn vq ge ea ma m_u1 m_u2 m_u3 m_gv m_nl m_gu m_nn ga gr fg pt m_gk m_ln pp wg m_gw m_gh bf m_nf gf fq fk m_fz fc m_nc gc cn m_ge1 m_gn1 m_sq mb m_ks kk m_gx3 m_lk (xs (5 * j + 1))  hIX) zyX7_lay mML_18 hIX.1 zl7 rfl rfl (Nat.le_of_ble_eq_true rfl) ⟨Nat.le_of_ble_eq_true rfl, Nat.le_of_ble_eq_true rfl⟩ ⟨show 100 + 10 * j + 0 ≤ 600000 by omega, show 3000 + 60 * j + 0 ≤ 7302249 by omega⟩ dL_law_213 (fun r f1 H locs hp hz1 hS hfr => ?_)
  clear hIX
  refine hp.elim fun v3 h90 => h90.elim fun v4 h91 => h91.elim fun v5 h92 => h92.elim fun v6 h93 => h93.elim fun v7 h94 => h94.elim fun v8 h95 => h95.elim fun v9 h96 => h96.elim fun v10 h97 => h97.elim fun v11 h98 => h98.elim fun v12 h99 => h99.elim fun v13 h910 => h910.elim fun v14 h911 => h911.elim fun v15 h912 => h912.elim fun v16 h913 => h913.elim fun v17 h914 => h914.elim fun v18 h915 => h915.elim fun v19 h916 => h916.elim fun v20 h917 => h917.elim fun v21 h918 => h918.elim fun v22 h919 => h919.elim fun v23 h920 => h920.elim fun v24 h921 => h921.elim fun v25 h922 => h922.elim fun v26 h923 => h923.elim fun v27 h924 => h924.elim fun v28 h925 => h925.elim fun v29 h926 => h926.elim fun v30 h927 => h927.elim fun v31 h928 => h928.elim fun v32 h929 => h929.elim fun v33 h930 => h930.elim fun v34 h931 => h931.elim fun v35 h932 => h932.elim fun v36 h933 => h933.elim fun v37 h934 => ?_
  clear hp h90 h91 h92 h93 h94 h95 h96 h97 h98 h99 h910 h911 h912 h913 h914 h915 h916 h917 h918 h919 h920 h921 h922 h923 h924 h925 h926 h927 h928 h929 h930 h931 h932 h933
  obtain ⟨rfl, e38, e39, e40, e41, e42, e43, e44, e45, e46, e47, e48, e49, e50, e51, e52, e53, e54, e55, e56, e57, e58, e59, e60, e61, hIX⟩ := h934
  obtain ⟨hzm, hd⟩ := hfr fM hzm hd
  have hzx := hz1
  clear hz1 hfr
  obtain ⟨fX, hfx9⟩ : ∃ g : zM, g = f1 := ⟨_, rfl⟩
  rw [← hfx9] at hIX hd hzx
  clear hfx9
  refine lv_pop hx hb dL_law_216 rfl ?_
  refine lv_aload_n hx hb dL_law_217 rfl (lv_at hl 2 rfl) ?_
  refine lv_aload_n hx hb dL_law_218 rfl (lv_at hl 0 rfl) ?_
  refine lv_iload_n hx hb dL_law_219 rfl (lv_at hl 3 rfl) ?_
  refine lv_iconst (v := 1) hx hb dL_law_220 (by decide) ?_
  refine lv_iadd hx hb dL_law_221 ?_
  refine lv_topi (fun y62 e63 => ?_)
  obtain rfl : y62 = nI (5 * j + 1) := e63.trans (nI_add (5 * j) 1)
  refine z_sld (5 * j + 1) hx hb hXs hbl hbA hS rfl (by omega) (by omega) dL_law_222 ?_
  refine z_callVi2 (As := [.int (xs (5 * j + 1))]) C hzm hS hA hl (k_X8_lay l D cy fM mo m_wev m_wnb m_wki m_wmy m_wce m_wiw m_wli m_wha m_wwt m_wfy m_wfk m_wem m_wna m_wpl m_whs m_wk1 m_wk2 m_wk3 m_u1 m_u2 m_u3 m_nl m_nn m_nf m_nc m_lk m_ks m_gv m_gu m_gk m_gm m_gc m_gw m_gl m_gh m_gt m_gy m_gq m_ge1 m_gn1 m_gp1 m_gs m_gx1 m_gx2 m_gx3 m_ln m_fz m_sq (xs (5 * j + 1))  hIM) zyX8_lay mML_21 hIM.1 zl8 rfl rfl (Nat.le_of_ble_eq_true rfl) ⟨Nat.le_of_ble_eq_true rfl, Nat.le_of_ble_eq_true rfl⟩ ⟨show 100 + 10 * j + 0 + 0 ≤ 600000 by omega, show 3000 + 60 * j + 0 + 0 ≤ 7302249 by omega⟩ dL_law_223 (fun r f1 H locs hp hz1 hS hfr => ?_)
  clear hIM
  refine hp.elim fun w64 h90 => h90.elim fun w65 h91 => h91.elim fun w66 h92 => h92.elim fun w67 h93 => h93.elim fun w68 h94 => h94.elim fun w69 h95 => h95.elim fun w70 h96 => h96.elim fun w71 h97 => h97.elim fun w72 h98 => h98.elim fun w73 h99 => h99.elim fun w74 h910 => h910.elim fun w75 h911 => h911.elim fun w76 h912 => h912.elim fun w77 h913 => h913.elim fun w78 h914 => h914.elim fun w79 h915 => h915.elim fun w80 h916 => h916.elim fun w81 h917 => h917.elim fun w82 h918 => h918.elim fun w83 h919 => h919.elim fun w84 h920 => h920.elim fun w85 h921 => h921.elim fun w86 h922 => h922.elim fun w87 h923 => h923.elim fun w88 h924 => h924.elim fun w89 h925 => h925.elim fun w90 h926 => h926.elim fun w91 h927 => h927.elim fun w92 h928 => h928.elim fun w93 h929 => ?_
  clear hp h90 h91 h92 h93 h94 h95 h96 h97 h98 h99 h910 h911 h912 h913 h914 h915 h916 h917 h918 h919 h920 h921 h922 h923 h924 h925 h926 h927 h928
  obtain ⟨rfl, e94, e95, e96, e97, e98, e99, e100, e101, e102, e103, e104, e105, e106, e107, e108, e109, e110, e111, e112, e113, e114, e115, e116, e117, e118, hIM⟩ := h929
  obtain ⟨hzx, hd⟩ := hfr fX hzx (z_dsym hd)
  replace hd := z_dsym hd
  have hzm := hz1
  clear hz1 hfr
  obtain ⟨fM, hfm9⟩ : ∃ g : zM, g = f1 := ⟨_, rfl⟩
  rw [← hfm9] at hIM hd hzm
  clear hfm9
  refine lv_pop hx hb dL_law_226 rfl ?_
  refine lv_goto (tgt := 1358) hx hb dL_law_227 (by decide) ?_
  refine W.widen (k := 100 + 10 * (j + 1)) (n := 3000 + 60 * (j + 1)) (show 100 + 10 * j + 0 + 0 ≤ 100 + 10 * (j + 1) by omega) (show 3000 + 60 * j + 0 + 0 ≤ 3000 + 60 * (j + 1) by omega) ?_
  have hPC9 : zPC v9 v15 v16 w77 := by rw [e44, e46, e47, e105]; exact hPC
  have hFF9 : zFF v21 v25 v26 w83 := by rw [e50, e51, e52, e108]; exact hFF
  have hRE9 : zRE v27 v30 v31 v32 v33 w86 := by rw [e53, e54, e55, e56, e57, e112]; exact hRE
  have hKR8 : zKR v34 v35 w88 w89 := by rw [e58, e59, e115, e116]; exact hKR
  exact fin _ _ _ (z_LI hIX hIM hzx hzm hd ⟨(e94.trans e38.symm), (e95.trans e39.symm), (e96.trans e40.symm), (e97.trans e41.symm), (e98.trans e42.symm), (e99.trans e43.symm), (e100.trans e44.symm), (e101.trans e45.symm), (e103.trans e48.symm), (e102.trans e46.symm), (e104.trans e49.symm), (e106.trans e50.symm), (e107.trans e51.symm), (e109.trans e53.symm), (e110.trans e54.symm), (e111.trans e55.symm), (e113.trans e56.symm), (e118.trans e61.symm), (e114.trans e58.symm), (e117.trans e60.symm), hPC9, hFF9, hRE9, hKR8⟩) hS (lv_sub hl [0, 1, 2, 3] rfl)
set_option maxHeartbeats 4000000 in
set_option maxRecDepth 100000 in
theorem law_case_2 {p : Program} {l : Launch} {e : Env} {s : State} {m : MethodId} {below : List Frame} {meth : Method} {c : Code} {D : va_G} {cy : Nat → ClassId} {b L : Nat} {xs : Nat → Int32} {o mo j : Nat} (C : zC D cy p s m #[Value.ref b] meth c RL cL_law 4) (hXs : va_X b L xs s s.heap) (hbl : b < s.heap.size) (hbA : ¬ zLA s b) (hL : L ≤ 2560) (hj : 5 * j + 5 ≤ L) (fin : ∀ (H : Heap) (locs : List Loc) (ls : Array Slot), zLI D cy s o mo H → va_S (zLA s) s.heap H locs → lv_has ls 4 [(0, .ref b), (1, .ref o), (2, .ref mo), (3, .int (nI (5 * j)))] → W p l e room_1 s m #[Value.ref b] below meth c H locs (100 + 10 * (j + 1)) (3000 + 60 * (j + 1)) (lw_Z below #[Value.ref b] s) (F0 m 1358 ls [])) {H : Heap} {locs : List Loc} {ls : Array Slot} (hLI : zLI D cy s o mo H) (hS : va_S (zLA s) s.heap H locs) (hl : lv_has ls 4 [(0, .ref b), (1, .ref o), (2, .ref mo), (3, .int (nI (5 * j)))]) : W p l e room_1 s m #[Value.ref b] below meth c H locs (100 + 10 * j) (3000 + 60 * j) (lw_Z below #[Value.ref b] s) (F0 m 230 ls []) := by
  have hx := C.1
  have hb := C.2.1
  have hA : ∀ q, s.heap.size ≤ q → zLA s q := fun q h => h
  refine Exists.elim hLI fun fX h90 => h90.elim fun fM h91 => h91.elim fun fa h92 => h92.elim fun fi h93 => h93.elim fun nu h94 => h94.elim fun fm h95 => h95.elim fun co h96 => h96.elim fun en h97 => h97.elim fun ke h98 => h98.elim fun ev h99 => h99.elim fun al h910 => h910.elim fun ra h911 => h911.elim fun kn h912 => h912.elim fun vq h913 => h913.elim fun ge h914 => h914.elim fun ea h915 => h915.elim fun ma h916 => h916.elim fun u1 h917 => h917.elim fun u2 h918 => h918.elim fun u3 h919 => h919.elim fun gv h920 => h920.elim fun nl h921 => h921.elim fun gu h922 => h922.elim fun nn h923 => h923.elim fun ga h924 => h924.elim fun gr h925 => h925.elim fun fg h926 => h926.elim fun pt h927 => h927.elim fun kd h928 => h928.elim fun ln h929 => h929.elim fun pp h930 => h930.elim fun wg h931 => h931.elim fun wd h932 => h932.elim fun hs h933 => h933.elim fun bf h934 => h934.elim fun nf h935 => h935.elim fun gf h936 => h936.elim fun fq h937 => h937.elim fun fk h938 => h938.elim fun fz h939 => h939.elim fun fc h940 => h940.elim fun nc h941 => h941.elim fun gc h942 => h942.elim fun cn h943 => h943.elim fun ce h944 => h944.elim fun cm h945 => h945.elim fun sq h946 => h946.elim fun mb h947 => h947.elim fun ks h948 => h948.elim fun kk h949 => h949.elim fun kv h950 => h950.elim fun lk h951 => h951.elim fun m_wev h952 => h952.elim fun m_wnb h953 => h953.elim fun m_wki h954 => h954.elim fun m_wmy h955 => h955.elim fun m_wce h956 => h956.elim fun m_wiw h957 => h957.elim fun m_wli h958 => h958.elim fun m_wha h959 => h959.elim fun m_wwt h960 => h960.elim fun m_wfy h961 => h961.elim fun m_wfk h962 => h962.elim fun m_wem h963 => h963.elim fun m_wna h964 => h964.elim fun m_wpl h965 => h965.elim fun m_whs h966 => h966.elim fun m_wk1 h967 => h967.elim fun m_wk2 h968 => h968.elim fun m_wk3 h969 => h969.elim fun m_u1 h970 => h970.elim fun m_u2 h971 => h971.elim fun m_u3 h972 => h972.elim fun m_nl h973 => h973.elim fun m_nn h974 => h974.elim fun m_nf h975 => h975.elim fun m_nc h976 => h976.elim fun m_lk h977 => h977.elim fun m_ks h978 => h978.elim fun m_gv h979 => h979.elim fun m_gu h980 => h980.elim fun m_gk h981 => h981.elim fun m_gm h982 => h982.elim fun m_gc h983 => h983.elim fun m_gw h984 => h984.elim fun m_gl h985 => h985.elim fun m_gh h986 => h986.elim fun m_gt h987 => h987.elim fun m_gy h988 => h988.elim fun m_gq h989 => h989.elim fun m_ge1 h990 => h990.elim fun m_gn1 h991 => h991.elim fun m_gp1 h992 => h992.elim fun m_gs h993 => h993.elim fun m_gx1 h994 => h994.elim fun m_gx2 h995 => h995.elim fun m_gx3 h996 => h996.elim fun m_ln h997 => h997.elim fun m_fz h998 => h998.elim fun m_sq h999 => ?_
  clear hLI h90 h91 h92 h93 h94 h95 h96 h97 h98 h99 h910 h911 h912 h913 h914 h915 h916 h917 h918 h919 h920 h921 h922 h923 h924 h925 h926 h927 h928 h929 h930 h931 h932 h933 h934 h935 h936 h937 h938 h939 h940 h941 h942 h943 h944 h945 h946 h947 h948 h949 h950 h951 h952 h953 h954 h955 h956 h957 h958 h959 h960 h961 h962 h963 h964 h965 h966 h967 h968 h969 h970 h971 h972 h973 h974 h975 h976 h977 h978 h979 h980 h981 h982 h983 h984 h985 h986 h987 h988 h989 h990 h991 h992 h993 h994 h995 h996 h997 h998
  obtain ⟨hIX, hIM, hzx, hzm, hd, rfl, rfl, rfl, rfl, rfl, rfl, rfl, rfl, rfl, rfl, rfl, rfl, rfl, rfl, rfl, rfl, rfl, rfl, rfl, rfl, hPC, hFF, hRE, hKR⟩ := h999
  have hl15 := zIM_ln hIM
  have hfz4 := zIM_fz hIM
  have hn60 := zIM_n60 hIM
  have hf60 := zIM_f60 hIM
  have hc60 := zIM_c60 hIM
  have hs40 := zIM_s40 hIM
  refine lv_aload_n hx hb dL_law_230 rfl (lv_at hl 1 rfl) ?_
  refine z_callVi2 (As := []) C hzx hS hA hl (k_X7_wipe l D cy fX o fa fi nu fm co en ke ev al ra kn vq ge ea ma m_u1 m_u2 m_u3 m_gv m_nl m_gu m_nn ga gr fg pt m_gk m_ln pp wg m_gw m_gh bf m_nf gf fq fk m_fz fc m_nc gc cn m_ge1 m_gn1 m_sq mb m_ks kk m_gx3 m_lk   hIX) zyX7_wipe mML_22 hIX.1 zl7 rfl rfl (Nat.le_of_ble_eq_true rfl) ⟨Nat.le_of_ble_eq_true rfl, Nat.le_of_ble_eq_true rfl⟩ ⟨show 100 + 10 * j + 0 ≤ 600000 by omega, show 3000 + 60 * j + 0 ≤ 7302249 by omega⟩ dL_law_231 (fun r f1 H locs hp hz1 hS hfr => ?_)
  clear hIX
  refine hp.elim fun v1 h90 => h90.elim fun v2 h91 => h91.elim fun v3 h92 => h92.elim fun v4 h93 => h93.elim fun v5 h94 => h94.elim fun v6 h95 => h95.elim fun v7 h96 => h96.elim fun v8 h97 => h97.elim fun v9 h98 => h98.elim fun v10 h99 => h99.elim fun v11 h910 => h910.elim fun v12 h911 => h911.elim fun v13 h912 => h912.elim fun v14 h913 => h913.elim fun v15 h914 => h914.elim fun v16 h915 => h915.elim fun v17 h916 => h916.elim fun v18 h917 => h917.elim fun v19 h918 => h918.elim fun v20 h919 => h919.elim fun v21 h920 => h920.elim fun v22 h921 => h921.elim fun v23 h922 => h922.elim fun v24 h923 => h923.elim fun v25 h924 => h924.elim fun v26 h925 => h925.elim fun v27 h926 => h926.elim fun v28 h927 => h927.elim fun v29 h928 => h928.elim fun v30 h929 => h929.elim fun v31 h930 => h930.elim fun v32 h931 => h931.elim fun v33 h932 => h932.elim fun v34 h933 => h933.elim fun v35 h934 => ?_
  clear hp h90 h91 h92 h93 h94 h95 h96 h97 h98 h99 h910 h911 h912 h913 h914 h915 h916 h917 h918 h919 h920 h921 h922 h923 h924 h925 h926 h927 h928 h929 h930 h931 h932 h933
  obtain ⟨rfl, e36, e37, e38, e39, e40, e41, e42, e43, e44, e45, e46, e47, e48, e49, e50, e51, e52, e53, e54, e55, e56, e57, e58, e59, hIX⟩ := h934
  obtain ⟨hzm, hd⟩ := hfr fM hzm hd
  have hzx := hz1
  clear hz1 hfr
  obtain ⟨fX, hfx9⟩ : ∃ g : zM, g = f1 := ⟨_, rfl⟩
  rw [← hfx9] at hIX hd hzx
  clear hfx9
  refine lv_pop hx hb dL_law_234 rfl ?_
  refine lv_aload_n hx hb dL_law_235 rfl (lv_at hl 2 rfl) ?_
  refine z_callVi2 (As := []) C hzm hS hA hl (k_X8_wipe l D cy fM mo m_wev m_wnb m_wki m_wmy m_wce m_wiw m_wli m_wha m_wwt m_wfy m_wfk m_wem m_wna m_wpl m_whs m_wk1 m_wk2 m_wk3 m_u1 m_u2 m_u3 m_nl m_nn m_nf m_nc m_lk m_ks m_gv m_gu m_gk m_gm m_gc m_gw m_gl m_gh m_gt m_gy m_gq m_ge1 m_gn1 m_gp1 m_gs m_gx1 m_gx2 m_gx3 m_ln m_fz m_sq   hIM) zyX8_wipe mML_26 hIM.1 zl8 rfl rfl (Nat.le_of_ble_eq_true rfl) ⟨Nat.le_of_ble_eq_true rfl, Nat.le_of_ble_eq_true rfl⟩ ⟨show 100 + 10 * j + 0 + 0 ≤ 600000 by omega, show 3000 + 60 * j + 0 + 0 ≤ 7302249 by omega⟩ dL_law_236 (fun r f1 H locs hp hz1 hS hfr => ?_)
  clear hIM
  refine hp.elim fun w60 h90 => h90.elim fun w61 h91 => h91.elim fun w62 h92 => h92.elim fun w63 h93 => h93.elim fun w64 h94 => h94.elim fun w65 h95 => h95.elim fun w66 h96 => h96.elim fun w67 h97 => h97.elim fun w68 h98 => h98.elim fun w69 h99 => h99.elim fun w70 h910 => h910.elim fun w71 h911 => h911.elim fun w72 h912 => h912.elim fun w73 h913 => h913.elim fun w74 h914 => h914.elim fun w75 h915 => h915.elim fun w76 h916 => h916.elim fun w77 h917 => h917.elim fun w78 h918 => h918.elim fun w79 h919 => h919.elim fun w80 h920 => h920.elim fun w81 h921 => h921.elim fun w82 h922 => h922.elim fun w83 h923 => h923.elim fun w84 h924 => h924.elim fun w85 h925 => h925.elim fun w86 h926 => h926.elim fun w87 h927 => h927.elim fun w88 h928 => h928.elim fun w89 h929 => ?_
  clear hp h90 h91 h92 h93 h94 h95 h96 h97 h98 h99 h910 h911 h912 h913 h914 h915 h916 h917 h918 h919 h920 h921 h922 h923 h924 h925 h926 h927 h928
  obtain ⟨rfl, e90, e91, e92, e93, e94, e95, e96, e97, e98, e99, e100, e101, e102, e103, e104, e105, e106, e107, e108, e109, e110, e111, e112, e113, e114, hIM⟩ := h929
  obtain ⟨hzx, hd⟩ := hfr fX hzx (z_dsym hd)
  replace hd := z_dsym hd
  have hzm := hz1
  clear hz1 hfr
  obtain ⟨fM, hfm9⟩ : ∃ g : zM, g = f1 := ⟨_, rfl⟩
  rw [← hfm9] at hIM hd hzm
  clear hfm9
  refine lv_pop hx hb dL_law_239 rfl ?_
  refine lv_goto (tgt := 1358) hx hb dL_law_240 (by decide) ?_
  refine W.widen (k := 100 + 10 * (j + 1)) (n := 3000 + 60 * (j + 1)) (show 100 + 10 * j + 0 + 0 ≤ 100 + 10 * (j + 1) by omega) (show 3000 + 60 * j + 0 + 0 ≤ 3000 + 60 * (j + 1) by omega) ?_
  have hPC9 : zPC v7 v13 v14 w73 := by rw [e42, e44, e45, e101]; exact hPC
  have hFF9 : zFF v19 v23 v24 w79 := by rw [e48, e49, e50, e104]; exact hFF
  have hRE9 : zRE v25 v28 v29 v30 v31 w82 := by rw [e51, e52, e53, e54, e55, e108]; exact hRE
  have hKR8 : zKR v32 v33 w84 w85 := by rw [e56, e57, e111, e112]; exact hKR
  exact fin _ _ _ (z_LI hIX hIM hzx hzm hd ⟨(e90.trans e36.symm), (e91.trans e37.symm), (e92.trans e38.symm), (e93.trans e39.symm), (e94.trans e40.symm), (e95.trans e41.symm), (e96.trans e42.symm), (e97.trans e43.symm), (e99.trans e46.symm), (e98.trans e44.symm), (e100.trans e47.symm), (e102.trans e48.symm), (e103.trans e49.symm), (e105.trans e51.symm), (e106.trans e52.symm), (e107.trans e53.symm), (e109.trans e54.symm), (e114.trans e59.symm), (e110.trans e56.symm), (e113.trans e58.symm), hPC9, hFF9, hRE9, hKR8⟩) hS (lv_sub hl [0, 1, 2, 3] rfl)
set_option maxHeartbeats 4000000 in
set_option maxRecDepth 100000 in
theorem law_case_3 {p : Program} {l : Launch} {e : Env} {s : State} {m : MethodId} {below : List Frame} {meth : Method} {c : Code} {D : va_G} {cy : Nat → ClassId} {b L : Nat} {xs : Nat → Int32} {o mo j : Nat} (C : zC D cy p s m #[Value.ref b] meth c RL cL_law 4) (hXs : va_X b L xs s s.heap) (hbl : b < s.heap.size) (hbA : ¬ zLA s b) (hL : L ≤ 2560) (hj : 5 * j + 5 ≤ L) (fin : ∀ (H : Heap) (locs : List Loc) (ls : Array Slot), zLI D cy s o mo H → va_S (zLA s) s.heap H locs → lv_has ls 4 [(0, .ref b), (1, .ref o), (2, .ref mo), (3, .int (nI (5 * j)))] → W p l e room_1 s m #[Value.ref b] below meth c H locs (100 + 10 * (j + 1)) (3000 + 60 * (j + 1)) (lw_Z below #[Value.ref b] s) (F0 m 1358 ls [])) {H : Heap} {locs : List Loc} {ls : Array Slot} (hLI : zLI D cy s o mo H) (hS : va_S (zLA s) s.heap H locs) (hl : lv_has ls 4 [(0, .ref b), (1, .ref o), (2, .ref mo), (3, .int (nI (5 * j)))]) : W p l e room_1 s m #[Value.ref b] below meth c H locs (100 + 10 * j) (3000 + 60 * j) (lw_Z below #[Value.ref b] s) (F0 m 243 ls []) := by
  have hx := C.1
  have hb := C.2.1
  have hA : ∀ q, s.heap.size ≤ q → zLA s q := fun q h => h
  refine Exists.elim hLI fun fX h90 => h90.elim fun fM h91 => h91.elim fun fa h92 => h92.elim fun fi h93 => h93.elim fun nu h94 => h94.elim fun fm h95 => h95.elim fun co h96 => h96.elim fun en h97 => h97.elim fun ke h98 => h98.elim fun ev h99 => h99.elim fun al h910 => h910.elim fun ra h911 => h911.elim fun kn h912 => h912.elim fun vq h913 => h913.elim fun ge h914 => h914.elim fun ea h915 => h915.elim fun ma h916 => h916.elim fun u1 h917 => h917.elim fun u2 h918 => h918.elim fun u3 h919 => h919.elim fun gv h920 => h920.elim fun nl h921 => h921.elim fun gu h922 => h922.elim fun nn h923 => h923.elim fun ga h924 => h924.elim fun gr h925 => h925.elim fun fg h926 => h926.elim fun pt h927 => h927.elim fun kd h928 => h928.elim fun ln h929 => h929.elim fun pp h930 => h930.elim fun wg h931 => h931.elim fun wd h932 => h932.elim fun hs h933 => h933.elim fun bf h934 => h934.elim fun nf h935 => h935.elim fun gf h936 => h936.elim fun fq h937 => h937.elim fun fk h938 => h938.elim fun fz h939 => h939.elim fun fc h940 => h940.elim fun nc h941 => h941.elim fun gc h942 => h942.elim fun cn h943 => h943.elim fun ce h944 => h944.elim fun cm h945 => h945.elim fun sq h946 => h946.elim fun mb h947 => h947.elim fun ks h948 => h948.elim fun kk h949 => h949.elim fun kv h950 => h950.elim fun lk h951 => h951.elim fun m_wev h952 => h952.elim fun m_wnb h953 => h953.elim fun m_wki h954 => h954.elim fun m_wmy h955 => h955.elim fun m_wce h956 => h956.elim fun m_wiw h957 => h957.elim fun m_wli h958 => h958.elim fun m_wha h959 => h959.elim fun m_wwt h960 => h960.elim fun m_wfy h961 => h961.elim fun m_wfk h962 => h962.elim fun m_wem h963 => h963.elim fun m_wna h964 => h964.elim fun m_wpl h965 => h965.elim fun m_whs h966 => h966.elim fun m_wk1 h967 => h967.elim fun m_wk2 h968 => h968.elim fun m_wk3 h969 => h969.elim fun m_u1 h970 => h970.elim fun m_u2 h971 => h971.elim fun m_u3 h972 => h972.elim fun m_nl h973 => h973.elim fun m_nn h974 => h974.elim fun m_nf h975 => h975.elim fun m_nc h976 => h976.elim fun m_lk h977 => h977.elim fun m_ks h978 => h978.elim fun m_gv h979 => h979.elim fun m_gu h980 => h980.elim fun m_gk h981 => h981.elim fun m_gm h982 => h982.elim fun m_gc h983 => h983.elim fun m_gw h984 => h984.elim fun m_gl h985 => h985.elim fun m_gh h986 => h986.elim fun m_gt h987 => h987.elim fun m_gy h988 => h988.elim fun m_gq h989 => h989.elim fun m_ge1 h990 => h990.elim fun m_gn1 h991 => h991.elim fun m_gp1 h992 => h992.elim fun m_gs h993 => h993.elim fun m_gx1 h994 => h994.elim fun m_gx2 h995 => h995.elim fun m_gx3 h996 => h996.elim fun m_ln h997 => h997.elim fun m_fz h998 => h998.elim fun m_sq h999 => ?_
  clear hLI h90 h91 h92 h93 h94 h95 h96 h97 h98 h99 h910 h911 h912 h913 h914 h915 h916 h917 h918 h919 h920 h921 h922 h923 h924 h925 h926 h927 h928 h929 h930 h931 h932 h933 h934 h935 h936 h937 h938 h939 h940 h941 h942 h943 h944 h945 h946 h947 h948 h949 h950 h951 h952 h953 h954 h955 h956 h957 h958 h959 h960 h961 h962 h963 h964 h965 h966 h967 h968 h969 h970 h971 h972 h973 h974 h975 h976 h977 h978 h979 h980 h981 h982 h983 h984 h985 h986 h987 h988 h989 h990 h991 h992 h993 h994 h995 h996 h997 h998
  obtain ⟨hIX, hIM, hzx, hzm, hd, rfl, rfl, rfl, rfl, rfl, rfl, rfl, rfl, rfl, rfl, rfl, rfl, rfl, rfl, rfl, rfl, rfl, rfl, rfl, rfl, hPC, hFF, hRE, hKR⟩ := h999
  have hl15 := zIM_ln hIM
  have hfz4 := zIM_fz hIM
  have hn60 := zIM_n60 hIM
  have hf60 := zIM_f60 hIM
  have hc60 := zIM_c60 hIM
  have hs40 := zIM_s40 hIM
  refine lv_aload_n hx hb dL_law_243 rfl (lv_at hl 1 rfl) ?_
  refine lv_aload_n hx hb dL_law_244 rfl (lv_at hl 0 rfl) ?_
  refine lv_iload_n hx hb dL_law_245 rfl (lv_at hl 3 rfl) ?_
  refine lv_iconst (v := 1) hx hb dL_law_246 (by decide) ?_
  refine lv_iadd hx hb dL_law_247 ?_
  refine lv_topi (fun y1 e2 => ?_)
  obtain rfl : y1 = nI (5 * j + 1) := e2.trans (nI_add (5 * j) 1)
  refine z_sld (5 * j + 1) hx hb hXs hbl hbA hS rfl (by omega) (by omega) dL_law_248 ?_
  refine lv_i2l (v := (xs (5 * j + 1)).toInt64) hx hb dL_law_249 rfl ?_
  refine lv_bipush (v := 32) hx hb dL_law_250 (by decide) ?_
  refine lv_lshl (v := ((xs (5 * j + 1)).toInt64) <<< ((32 : Int32).toInt64 &&& 63)) hx hb dL_law_252 rfl ?_
  refine lv_aload_n hx hb dL_law_253 rfl (lv_at hl 0 rfl) ?_
  refine lv_iload_n hx hb dL_law_254 rfl (lv_at hl 3 rfl) ?_
  refine lv_iconst (v := 2) hx hb dL_law_255 (by decide) ?_
  refine lv_iadd hx hb dL_law_256 ?_
  refine lv_topi (fun y3 e4 => ?_)
  obtain rfl : y3 = nI (5 * j + 2) := e4.trans (nI_add (5 * j) 2)
  refine z_sld (5 * j + 2) hx hb hXs hbl hbA hS rfl (by omega) (by omega) dL_law_257 ?_
  refine lv_i2l (v := (xs (5 * j + 2)).toInt64) hx hb dL_law_258 rfl ?_
  refine lv_ldc2 (v := 4294967295) hx hb C.2.2.2.1 (C.2.2.2.2.1 _ mKL_27) dL_law_259 ?_
  refine lv_land hx hb dL_law_262 ?_
  refine lv_lor hx hb dL_law_263 ?_
  refine lv_aload_n hx hb dL_law_264 rfl (lv_at hl 0 rfl) ?_
  refine lv_iload_n hx hb dL_law_265 rfl (lv_at hl 3 rfl) ?_
  refine lv_iconst (v := 3) hx hb dL_law_266 (by decide) ?_
  refine lv_iadd hx hb dL_law_267 ?_
  refine lv_topi (fun y5 e6 => ?_)
  obtain rfl : y5 = nI (5 * j + 3) := e6.trans (nI_add (5 * j) 3)
  refine z_sld (5 * j + 3) hx hb hXs hbl hbA hS rfl (by omega) (by omega) dL_law_268 ?_
  refine lv_i2l (v := (xs (5 * j + 3)).toInt64) hx hb dL_law_269 rfl ?_
  refine lv_bipush (v := 32) hx hb dL_law_270 (by decide) ?_
  refine lv_lshl (v := ((xs (5 * j + 3)).toInt64) <<< ((32 : Int32).toInt64 &&& 63)) hx hb dL_law_272 rfl ?_
  refine lv_aload_n hx hb dL_law_273 rfl (lv_at hl 0 rfl) ?_
  refine lv_iload_n hx hb dL_law_274 rfl (lv_at hl 3 rfl) ?_
  refine lv_iconst (v := 4) hx hb dL_law_275 (by decide) ?_
  refine lv_iadd hx hb dL_law_276 ?_
  refine lv_topi (fun y7 e8 => ?_)
  obtain rfl : y7 = nI (5 * j + 4) := e8.trans (nI_add (5 * j) 4)
  refine z_sld (5 * j + 4) hx hb hXs hbl hbA hS rfl (by omega) (by omega) dL_law_277 ?_
  refine lv_i2l (v := (xs (5 * j + 4)).toInt64) hx hb dL_law_278 rfl ?_
  refine lv_ldc2 (v := 4294967295) hx hb C.2.2.2.1 (C.2.2.2.2.1 _ mKL_27) dL_law_279 ?_
  refine lv_land hx hb dL_law_282 ?_
  refine lv_lor hx hb dL_law_283 ?_
  refine z_callVi2 (As := [.long ((((xs (5 * j + 1)).toInt64) <<< ((32 : Int32).toInt64 &&& 63)) ||| (((xs (5 * j + 2)).toInt64) &&& 4294967295)), .long ((((xs (5 * j + 3)).toInt64) <<< ((32 : Int32).toInt64 &&& 63)) ||| (((xs (5 * j + 4)).toInt64) &&& 4294967295))]) C hzx hS hA hl (k_X7_point l D cy fX o fa fi nu fm co en ke ev al ra kn vq ge ea ma m_u1 m_u2 m_u3 m_gv m_nl m_gu m_nn ga gr fg pt m_gk m_ln pp wg m_gw m_gh bf m_nf gf fq fk m_fz fc m_nc gc cn m_ge1 m_gn1 m_sq mb m_ks kk m_gx3 m_lk ((((xs (5 * j + 1)).toInt64) <<< ((32 : Int32).toInt64 &&& 63)) ||| (((xs (5 * j + 2)).toInt64) &&& 4294967295)) ((((xs (5 * j + 3)).toInt64) <<< ((32 : Int32).toInt64 &&& 63)) ||| (((xs (5 * j + 4)).toInt64) &&& 4294967295))  hIX) zyX7_point mML_29 hIX.1 zl7 rfl rfl (Nat.le_of_ble_eq_true rfl) ⟨Nat.le_of_ble_eq_true rfl, Nat.le_of_ble_eq_true rfl⟩ ⟨show 100 + 10 * j + 2 ≤ 600000 by omega, show 3000 + 60 * j + 9 ≤ 7302249 by omega⟩ dL_law_284 (fun r f1 H locs hp hz1 hS hfr => ?_)
  clear hIX
  refine hp.elim fun v9 h90 => h90.elim fun v10 h91 => h91.elim fun v11 h92 => h92.elim fun v12 h93 => h93.elim fun v13 h94 => h94.elim fun v14 h95 => h95.elim fun v15 h96 => h96.elim fun v16 h97 => h97.elim fun v17 h98 => h98.elim fun v18 h99 => h99.elim fun v19 h910 => h910.elim fun v20 h911 => h911.elim fun v21 h912 => h912.elim fun v22 h913 => h913.elim fun v23 h914 => h914.elim fun v24 h915 => h915.elim fun v25 h916 => h916.elim fun v26 h917 => h917.elim fun v27 h918 => h918.elim fun v28 h919 => h919.elim fun v29 h920 => h920.elim fun v30 h921 => h921.elim fun v31 h922 => h922.elim fun v32 h923 => h923.elim fun v33 h924 => h924.elim fun v34 h925 => h925.elim fun v35 h926 => h926.elim fun v36 h927 => h927.elim fun v37 h928 => h928.elim fun v38 h929 => h929.elim fun v39 h930 => h930.elim fun v40 h931 => h931.elim fun v41 h932 => h932.elim fun v42 h933 => h933.elim fun v43 h934 => ?_
  clear hp h90 h91 h92 h93 h94 h95 h96 h97 h98 h99 h910 h911 h912 h913 h914 h915 h916 h917 h918 h919 h920 h921 h922 h923 h924 h925 h926 h927 h928 h929 h930 h931 h932 h933
  obtain ⟨rfl, e44, e45, e46, e47, e48, e49, e50, e51, e52, e53, e54, e55, e56, e57, e58, e59, e60, e61, e62, e63, e64, e65, e66, e67, hIX⟩ := h934
  obtain ⟨hzm, hd⟩ := hfr fM hzm hd
  have hzx := hz1
  clear hz1 hfr
  obtain ⟨fX, hfx9⟩ : ∃ g : zM, g = f1 := ⟨_, rfl⟩
  rw [← hfx9] at hIX hd hzx
  clear hfx9
  refine lv_pop hx hb dL_law_287 rfl ?_
  refine lv_aload_n hx hb dL_law_288 rfl (lv_at hl 2 rfl) ?_
  refine lv_aload_n hx hb dL_law_289 rfl (lv_at hl 0 rfl) ?_
  refine lv_iload_n hx hb dL_law_290 rfl (lv_at hl 3 rfl) ?_
  refine lv_iconst (v := 1) hx hb dL_law_291 (by decide) ?_
  refine lv_iadd hx hb dL_law_292 ?_
  refine lv_topi (fun y68 e69 => ?_)
  obtain rfl : y68 = nI (5 * j + 1) := e69.trans (nI_add (5 * j) 1)
  refine z_sld (5 * j + 1) hx hb hXs hbl hbA hS rfl (by omega) (by omega) dL_law_293 ?_
  refine lv_i2l (v := (xs (5 * j + 1)).toInt64) hx hb dL_law_294 rfl ?_
  refine lv_bipush (v := 32) hx hb dL_law_295 (by decide) ?_
  refine lv_lshl (v := ((xs (5 * j + 1)).toInt64) <<< ((32 : Int32).toInt64 &&& 63)) hx hb dL_law_297 rfl ?_
  refine lv_aload_n hx hb dL_law_298 rfl (lv_at hl 0 rfl) ?_
  refine lv_iload_n hx hb dL_law_299 rfl (lv_at hl 3 rfl) ?_
  refine lv_iconst (v := 2) hx hb dL_law_300 (by decide) ?_
  refine lv_iadd hx hb dL_law_301 ?_
  refine lv_topi (fun y70 e71 => ?_)
  obtain rfl : y70 = nI (5 * j + 2) := e71.trans (nI_add (5 * j) 2)
  refine z_sld (5 * j + 2) hx hb hXs hbl hbA hS rfl (by omega) (by omega) dL_law_302 ?_
  refine lv_i2l (v := (xs (5 * j + 2)).toInt64) hx hb dL_law_303 rfl ?_
  refine lv_ldc2 (v := 4294967295) hx hb C.2.2.2.1 (C.2.2.2.2.1 _ mKL_27) dL_law_304 ?_
  refine lv_land hx hb dL_law_307 ?_
  refine lv_lor hx hb dL_law_308 ?_
  refine lv_aload_n hx hb dL_law_309 rfl (lv_at hl 0 rfl) ?_
  refine lv_iload_n hx hb dL_law_310 rfl (lv_at hl 3 rfl) ?_
  refine lv_iconst (v := 3) hx hb dL_law_311 (by decide) ?_
  refine lv_iadd hx hb dL_law_312 ?_
  refine lv_topi (fun y72 e73 => ?_)
  obtain rfl : y72 = nI (5 * j + 3) := e73.trans (nI_add (5 * j) 3)
  refine z_sld (5 * j + 3) hx hb hXs hbl hbA hS rfl (by omega) (by omega) dL_law_313 ?_
  refine lv_i2l (v := (xs (5 * j + 3)).toInt64) hx hb dL_law_314 rfl ?_
  refine lv_bipush (v := 32) hx hb dL_law_315 (by decide) ?_
  refine lv_lshl (v := ((xs (5 * j + 3)).toInt64) <<< ((32 : Int32).toInt64 &&& 63)) hx hb dL_law_317 rfl ?_
  refine lv_aload_n hx hb dL_law_318 rfl (lv_at hl 0 rfl) ?_
  refine lv_iload_n hx hb dL_law_319 rfl (lv_at hl 3 rfl) ?_
  refine lv_iconst (v := 4) hx hb dL_law_320 (by decide) ?_
  refine lv_iadd hx hb dL_law_321 ?_
  refine lv_topi (fun y74 e75 => ?_)
  obtain rfl : y74 = nI (5 * j + 4) := e75.trans (nI_add (5 * j) 4)
  refine z_sld (5 * j + 4) hx hb hXs hbl hbA hS rfl (by omega) (by omega) dL_law_322 ?_
  refine lv_i2l (v := (xs (5 * j + 4)).toInt64) hx hb dL_law_323 rfl ?_
  refine lv_ldc2 (v := 4294967295) hx hb C.2.2.2.1 (C.2.2.2.2.1 _ mKL_27) dL_law_324 ?_
  refine lv_land hx hb dL_law_327 ?_
  refine lv_lor hx hb dL_law_328 ?_
  refine z_callVi2 (As := [.long ((((xs (5 * j + 1)).toInt64) <<< ((32 : Int32).toInt64 &&& 63)) ||| (((xs (5 * j + 2)).toInt64) &&& 4294967295)), .long ((((xs (5 * j + 3)).toInt64) <<< ((32 : Int32).toInt64 &&& 63)) ||| (((xs (5 * j + 4)).toInt64) &&& 4294967295))]) C hzm hS hA hl (k_X8_point l D cy fM mo m_wev m_wnb m_wki m_wmy m_wce m_wiw m_wli m_wha m_wwt m_wfy m_wfk m_wem m_wna m_wpl m_whs m_wk1 m_wk2 m_wk3 m_u1 m_u2 m_u3 m_nl m_nn m_nf m_nc m_lk m_ks m_gv m_gu m_gk m_gm m_gc m_gw m_gl m_gh m_gt m_gy m_gq m_ge1 m_gn1 m_gp1 m_gs m_gx1 m_gx2 m_gx3 m_ln m_fz m_sq ((((xs (5 * j + 1)).toInt64) <<< ((32 : Int32).toInt64 &&& 63)) ||| (((xs (5 * j + 2)).toInt64) &&& 4294967295)) ((((xs (5 * j + 3)).toInt64) <<< ((32 : Int32).toInt64 &&& 63)) ||| (((xs (5 * j + 4)).toInt64) &&& 4294967295))  hIM) zyX8_point mML_33 hIM.1 zl8 rfl rfl (Nat.le_of_ble_eq_true rfl) ⟨Nat.le_of_ble_eq_true rfl, Nat.le_of_ble_eq_true rfl⟩ ⟨show 100 + 10 * j + 2 + 0 ≤ 600000 by omega, show 3000 + 60 * j + 9 + 0 ≤ 7302249 by omega⟩ dL_law_329 (fun r f1 H locs hp hz1 hS hfr => ?_)
  clear hIM
  refine hp.elim fun w76 h90 => h90.elim fun w77 h91 => h91.elim fun w78 h92 => h92.elim fun w79 h93 => h93.elim fun w80 h94 => h94.elim fun w81 h95 => h95.elim fun w82 h96 => h96.elim fun w83 h97 => h97.elim fun w84 h98 => h98.elim fun w85 h99 => h99.elim fun w86 h910 => h910.elim fun w87 h911 => h911.elim fun w88 h912 => h912.elim fun w89 h913 => h913.elim fun w90 h914 => h914.elim fun w91 h915 => h915.elim fun w92 h916 => h916.elim fun w93 h917 => h917.elim fun w94 h918 => h918.elim fun w95 h919 => h919.elim fun w96 h920 => h920.elim fun w97 h921 => h921.elim fun w98 h922 => h922.elim fun w99 h923 => h923.elim fun w100 h924 => h924.elim fun w101 h925 => h925.elim fun w102 h926 => h926.elim fun w103 h927 => h927.elim fun w104 h928 => h928.elim fun w105 h929 => ?_
  clear hp h90 h91 h92 h93 h94 h95 h96 h97 h98 h99 h910 h911 h912 h913 h914 h915 h916 h917 h918 h919 h920 h921 h922 h923 h924 h925 h926 h927 h928
  obtain ⟨rfl, e106, e107, e108, e109, e110, e111, e112, e113, e114, e115, e116, e117, e118, e119, e120, e121, e122, e123, e124, e125, e126, e127, e128, e129, e130, hIM⟩ := h929
  obtain ⟨hzx, hd⟩ := hfr fX hzx (z_dsym hd)
  replace hd := z_dsym hd
  have hzm := hz1
  clear hz1 hfr
  obtain ⟨fM, hfm9⟩ : ∃ g : zM, g = f1 := ⟨_, rfl⟩
  rw [← hfm9] at hIM hd hzm
  clear hfm9
  refine lv_pop hx hb dL_law_332 rfl ?_
  refine lv_goto (tgt := 1358) hx hb dL_law_333 (by decide) ?_
  refine W.widen (k := 100 + 10 * (j + 1)) (n := 3000 + 60 * (j + 1)) (show 100 + 10 * j + 2 + 0 ≤ 100 + 10 * (j + 1) by omega) (show 3000 + 60 * j + 9 + 0 ≤ 3000 + 60 * (j + 1) by omega) ?_
  have hPC9 : zPC v15 v21 v22 w89 := by rw [e50, e52]; exact zPC_new hPC hl15 e53 e117
  have hFF9 : zFF v27 v31 v32 w95 := by rw [e56, e57, e58, e120]; exact hFF
  have hRE9 : zRE v33 v36 v37 v38 v39 w98 := by rw [e59, e60, e61, e62, e63, e124]; exact hRE
  have hKR8 : zKR v40 v41 w100 w101 := by rw [e64, e65, e127, e128]; exact hKR
  exact fin _ _ _ (z_LI hIX hIM hzx hzm hd ⟨(e106.trans e44.symm), (e107.trans e45.symm), (e108.trans e46.symm), (e109.trans e47.symm), (e110.trans e48.symm), (e111.trans e49.symm), (e112.trans e50.symm), (e113.trans e51.symm), (e115.trans e54.symm), (e114.trans e52.symm), (e116.trans e55.symm), (e118.trans e56.symm), (e119.trans e57.symm), (e121.trans e59.symm), (e122.trans e60.symm), (e123.trans e61.symm), (e125.trans e62.symm), (e130.trans e67.symm), (e126.trans e64.symm), (e129.trans e66.symm), hPC9, hFF9, hRE9, hKR8⟩) hS (lv_sub hl [0, 1, 2, 3] rfl)
set_option maxHeartbeats 4000000 in
set_option maxRecDepth 100000 in
theorem law_case_4 {p : Program} {l : Launch} {e : Env} {s : State} {m : MethodId} {below : List Frame} {meth : Method} {c : Code} {D : va_G} {cy : Nat → ClassId} {b L : Nat} {xs : Nat → Int32} {o mo j : Nat} (C : zC D cy p s m #[Value.ref b] meth c RL cL_law 4) (hXs : va_X b L xs s s.heap) (hbl : b < s.heap.size) (hbA : ¬ zLA s b) (hL : L ≤ 2560) (hj : 5 * j + 5 ≤ L) (fin : ∀ (H : Heap) (locs : List Loc) (ls : Array Slot), zLI D cy s o mo H → va_S (zLA s) s.heap H locs → lv_has ls 4 [(0, .ref b), (1, .ref o), (2, .ref mo), (3, .int (nI (5 * j)))] → W p l e room_1 s m #[Value.ref b] below meth c H locs (100 + 10 * (j + 1)) (3000 + 60 * (j + 1)) (lw_Z below #[Value.ref b] s) (F0 m 1358 ls [])) {H : Heap} {locs : List Loc} {ls : Array Slot} (hLI : zLI D cy s o mo H) (hS : va_S (zLA s) s.heap H locs) (hl : lv_has ls 4 [(0, .ref b), (1, .ref o), (2, .ref mo), (3, .int (nI (5 * j)))]) : W p l e room_1 s m #[Value.ref b] below meth c H locs (100 + 10 * j) (3000 + 60 * j) (lw_Z below #[Value.ref b] s) (F0 m 336 ls []) := by
  have hx := C.1
  have hb := C.2.1
  have hA : ∀ q, s.heap.size ≤ q → zLA s q := fun q h => h
  refine Exists.elim hLI fun fX h90 => h90.elim fun fM h91 => h91.elim fun fa h92 => h92.elim fun fi h93 => h93.elim fun nu h94 => h94.elim fun fm h95 => h95.elim fun co h96 => h96.elim fun en h97 => h97.elim fun ke h98 => h98.elim fun ev h99 => h99.elim fun al h910 => h910.elim fun ra h911 => h911.elim fun kn h912 => h912.elim fun vq h913 => h913.elim fun ge h914 => h914.elim fun ea h915 => h915.elim fun ma h916 => h916.elim fun u1 h917 => h917.elim fun u2 h918 => h918.elim fun u3 h919 => h919.elim fun gv h920 => h920.elim fun nl h921 => h921.elim fun gu h922 => h922.elim fun nn h923 => h923.elim fun ga h924 => h924.elim fun gr h925 => h925.elim fun fg h926 => h926.elim fun pt h927 => h927.elim fun kd h928 => h928.elim fun ln h929 => h929.elim fun pp h930 => h930.elim fun wg h931 => h931.elim fun wd h932 => h932.elim fun hs h933 => h933.elim fun bf h934 => h934.elim fun nf h935 => h935.elim fun gf h936 => h936.elim fun fq h937 => h937.elim fun fk h938 => h938.elim fun fz h939 => h939.elim fun fc h940 => h940.elim fun nc h941 => h941.elim fun gc h942 => h942.elim fun cn h943 => h943.elim fun ce h944 => h944.elim fun cm h945 => h945.elim fun sq h946 => h946.elim fun mb h947 => h947.elim fun ks h948 => h948.elim fun kk h949 => h949.elim fun kv h950 => h950.elim fun lk h951 => h951.elim fun m_wev h952 => h952.elim fun m_wnb h953 => h953.elim fun m_wki h954 => h954.elim fun m_wmy h955 => h955.elim fun m_wce h956 => h956.elim fun m_wiw h957 => h957.elim fun m_wli h958 => h958.elim fun m_wha h959 => h959.elim fun m_wwt h960 => h960.elim fun m_wfy h961 => h961.elim fun m_wfk h962 => h962.elim fun m_wem h963 => h963.elim fun m_wna h964 => h964.elim fun m_wpl h965 => h965.elim fun m_whs h966 => h966.elim fun m_wk1 h967 => h967.elim fun m_wk2 h968 => h968.elim fun m_wk3 h969 => h969.elim fun m_u1 h970 => h970.elim fun m_u2 h971 => h971.elim fun m_u3 h972 => h972.elim fun m_nl h973 => h973.elim fun m_nn h974 => h974.elim fun m_nf h975 => h975.elim fun m_nc h976 => h976.elim fun m_lk h977 => h977.elim fun m_ks h978 => h978.elim fun m_gv h979 => h979.elim fun m_gu h980 => h980.elim fun m_gk h981 => h981.elim fun m_gm h982 => h982.elim fun m_gc h983 => h983.elim fun m_gw h984 => h984.elim fun m_gl h985 => h985.elim fun m_gh h986 => h986.elim fun m_gt h987 => h987.elim fun m_gy h988 => h988.elim fun m_gq h989 => h989.elim fun m_ge1 h990 => h990.elim fun m_gn1 h991 => h991.elim fun m_gp1 h992 => h992.elim fun m_gs h993 => h993.elim fun m_gx1 h994 => h994.elim fun m_gx2 h995 => h995.elim fun m_gx3 h996 => h996.elim fun m_ln h997 => h997.elim fun m_fz h998 => h998.elim fun m_sq h999 => ?_
  clear hLI h90 h91 h92 h93 h94 h95 h96 h97 h98 h99 h910 h911 h912 h913 h914 h915 h916 h917 h918 h919 h920 h921 h922 h923 h924 h925 h926 h927 h928 h929 h930 h931 h932 h933 h934 h935 h936 h937 h938 h939 h940 h941 h942 h943 h944 h945 h946 h947 h948 h949 h950 h951 h952 h953 h954 h955 h956 h957 h958 h959 h960 h961 h962 h963 h964 h965 h966 h967 h968 h969 h970 h971 h972 h973 h974 h975 h976 h977 h978 h979 h980 h981 h982 h983 h984 h985 h986 h987 h988 h989 h990 h991 h992 h993 h994 h995 h996 h997 h998
  obtain ⟨hIX, hIM, hzx, hzm, hd, rfl, rfl, rfl, rfl, rfl, rfl, rfl, rfl, rfl, rfl, rfl, rfl, rfl, rfl, rfl, rfl, rfl, rfl, rfl, rfl, hPC, hFF, hRE, hKR⟩ := h999
  have hl15 := zIM_ln hIM
  have hfz4 := zIM_fz hIM
  have hn60 := zIM_n60 hIM
  have hf60 := zIM_f60 hIM
  have hc60 := zIM_c60 hIM
  have hs40 := zIM_s40 hIM
  refine lv_aload_n hx hb dL_law_336 rfl (lv_at hl 1 rfl) ?_
  refine lv_aload_n hx hb dL_law_337 rfl (lv_at hl 0 rfl) ?_
  refine lv_iload_n hx hb dL_law_338 rfl (lv_at hl 3 rfl) ?_
  refine lv_iconst (v := 1) hx hb dL_law_339 (by decide) ?_
  refine lv_iadd hx hb dL_law_340 ?_
  refine lv_topi (fun y1 e2 => ?_)
  obtain rfl : y1 = nI (5 * j + 1) := e2.trans (nI_add (5 * j) 1)
  refine z_sld (5 * j + 1) hx hb hXs hbl hbA hS rfl (by omega) (by omega) dL_law_341 ?_
  refine lv_aload_n hx hb dL_law_342 rfl (lv_at hl 0 rfl) ?_
  refine lv_iload_n hx hb dL_law_343 rfl (lv_at hl 3 rfl) ?_
  refine lv_iconst (v := 2) hx hb dL_law_344 (by decide) ?_
  refine lv_iadd hx hb dL_law_345 ?_
  refine lv_topi (fun y3 e4 => ?_)
  obtain rfl : y3 = nI (5 * j + 2) := e4.trans (nI_add (5 * j) 2)
  refine z_sld (5 * j + 2) hx hb hXs hbl hbA hS rfl (by omega) (by omega) dL_law_346 ?_
  refine z_callVi2 (As := [.int (xs (5 * j + 1)), .int (xs (5 * j + 2))]) C hzx hS hA hl (k_X7_span l D cy fX o fa fi nu fm co en ke ev al ra kn vq ge ea ma m_u1 m_u2 m_u3 m_gv m_nl m_gu m_nn ga gr fg pt m_gk m_ln pp wg m_gw m_gh bf m_nf gf fq fk m_fz fc m_nc gc cn m_ge1 m_gn1 m_sq mb m_ks kk m_gx3 m_lk (xs (5 * j + 1)) (xs (5 * j + 2))  hIX) zyX7_span mML_34 hIX.1 zl7 rfl rfl (Nat.le_of_ble_eq_true rfl) ⟨Nat.le_of_ble_eq_true rfl, Nat.le_of_ble_eq_true rfl⟩ ⟨show 100 + 10 * j + 2 ≤ 600000 by omega, show 3000 + 60 * j + 9 ≤ 7302249 by omega⟩ dL_law_347 (fun r f1 H locs hp hz1 hS hfr => ?_)
  clear hIX
  refine hp.elim fun v5 h90 => h90.elim fun v6 h91 => h91.elim fun v7 h92 => h92.elim fun v8 h93 => h93.elim fun v9 h94 => h94.elim fun v10 h95 => h95.elim fun v11 h96 => h96.elim fun v12 h97 => h97.elim fun v13 h98 => h98.elim fun v14 h99 => h99.elim fun v15 h910 => h910.elim fun v16 h911 => h911.elim fun v17 h912 => h912.elim fun v18 h913 => h913.elim fun v19 h914 => h914.elim fun v20 h915 => h915.elim fun v21 h916 => h916.elim fun v22 h917 => h917.elim fun v23 h918 => h918.elim fun v24 h919 => h919.elim fun v25 h920 => h920.elim fun v26 h921 => h921.elim fun v27 h922 => h922.elim fun v28 h923 => h923.elim fun v29 h924 => h924.elim fun v30 h925 => h925.elim fun v31 h926 => h926.elim fun v32 h927 => h927.elim fun v33 h928 => h928.elim fun v34 h929 => h929.elim fun v35 h930 => h930.elim fun v36 h931 => h931.elim fun v37 h932 => h932.elim fun v38 h933 => h933.elim fun v39 h934 => ?_
  clear hp h90 h91 h92 h93 h94 h95 h96 h97 h98 h99 h910 h911 h912 h913 h914 h915 h916 h917 h918 h919 h920 h921 h922 h923 h924 h925 h926 h927 h928 h929 h930 h931 h932 h933
  obtain ⟨rfl, e40, e41, e42, e43, e44, e45, e46, e47, e48, e49, e50, e51, e52, e53, e54, e55, e56, e57, e58, e59, e60, e61, e62, e63, hIX⟩ := h934
  obtain ⟨hzm, hd⟩ := hfr fM hzm hd
  have hzx := hz1
  clear hz1 hfr
  obtain ⟨fX, hfx9⟩ : ∃ g : zM, g = f1 := ⟨_, rfl⟩
  rw [← hfx9] at hIX hd hzx
  clear hfx9
  refine lv_pop hx hb dL_law_350 rfl ?_
  refine lv_aload_n hx hb dL_law_351 rfl (lv_at hl 2 rfl) ?_
  refine lv_aload_n hx hb dL_law_352 rfl (lv_at hl 0 rfl) ?_
  refine lv_iload_n hx hb dL_law_353 rfl (lv_at hl 3 rfl) ?_
  refine lv_iconst (v := 1) hx hb dL_law_354 (by decide) ?_
  refine lv_iadd hx hb dL_law_355 ?_
  refine lv_topi (fun y64 e65 => ?_)
  obtain rfl : y64 = nI (5 * j + 1) := e65.trans (nI_add (5 * j) 1)
  refine z_sld (5 * j + 1) hx hb hXs hbl hbA hS rfl (by omega) (by omega) dL_law_356 ?_
  refine lv_aload_n hx hb dL_law_357 rfl (lv_at hl 0 rfl) ?_
  refine lv_iload_n hx hb dL_law_358 rfl (lv_at hl 3 rfl) ?_
  refine lv_iconst (v := 2) hx hb dL_law_359 (by decide) ?_
  refine lv_iadd hx hb dL_law_360 ?_
  refine lv_topi (fun y66 e67 => ?_)
  obtain rfl : y66 = nI (5 * j + 2) := e67.trans (nI_add (5 * j) 2)
  refine z_sld (5 * j + 2) hx hb hXs hbl hbA hS rfl (by omega) (by omega) dL_law_361 ?_
  refine z_callVi2 (As := [.int (xs (5 * j + 1)), .int (xs (5 * j + 2))]) C hzm hS hA hl (k_X8_span l D cy fM mo m_wev m_wnb m_wki m_wmy m_wce m_wiw m_wli m_wha m_wwt m_wfy m_wfk m_wem m_wna m_wpl m_whs m_wk1 m_wk2 m_wk3 m_u1 m_u2 m_u3 m_nl m_nn m_nf m_nc m_lk m_ks m_gv m_gu m_gk m_gm m_gc m_gw m_gl m_gh m_gt m_gy m_gq m_ge1 m_gn1 m_gp1 m_gs m_gx1 m_gx2 m_gx3 m_ln m_fz m_sq (xs (5 * j + 1)) (xs (5 * j + 2))  hIM) zyX8_span mML_38 hIM.1 zl8 rfl rfl (Nat.le_of_ble_eq_true rfl) ⟨Nat.le_of_ble_eq_true rfl, Nat.le_of_ble_eq_true rfl⟩ ⟨show 100 + 10 * j + 2 + 0 ≤ 600000 by omega, show 3000 + 60 * j + 9 + 0 ≤ 7302249 by omega⟩ dL_law_362 (fun r f1 H locs hp hz1 hS hfr => ?_)
  clear hIM
  refine hp.elim fun w68 h90 => h90.elim fun w69 h91 => h91.elim fun w70 h92 => h92.elim fun w71 h93 => h93.elim fun w72 h94 => h94.elim fun w73 h95 => h95.elim fun w74 h96 => h96.elim fun w75 h97 => h97.elim fun w76 h98 => h98.elim fun w77 h99 => h99.elim fun w78 h910 => h910.elim fun w79 h911 => h911.elim fun w80 h912 => h912.elim fun w81 h913 => h913.elim fun w82 h914 => h914.elim fun w83 h915 => h915.elim fun w84 h916 => h916.elim fun w85 h917 => h917.elim fun w86 h918 => h918.elim fun w87 h919 => h919.elim fun w88 h920 => h920.elim fun w89 h921 => h921.elim fun w90 h922 => h922.elim fun w91 h923 => h923.elim fun w92 h924 => h924.elim fun w93 h925 => h925.elim fun w94 h926 => h926.elim fun w95 h927 => h927.elim fun w96 h928 => h928.elim fun w97 h929 => ?_
  clear hp h90 h91 h92 h93 h94 h95 h96 h97 h98 h99 h910 h911 h912 h913 h914 h915 h916 h917 h918 h919 h920 h921 h922 h923 h924 h925 h926 h927 h928
  obtain ⟨rfl, e98, e99, e100, e101, e102, e103, e104, e105, e106, e107, e108, e109, e110, e111, e112, e113, e114, e115, e116, e117, e118, e119, e120, e121, e122, hIM⟩ := h929
  obtain ⟨hzx, hd⟩ := hfr fX hzx (z_dsym hd)
  replace hd := z_dsym hd
  have hzm := hz1
  clear hz1 hfr
  obtain ⟨fM, hfm9⟩ : ∃ g : zM, g = f1 := ⟨_, rfl⟩
  rw [← hfm9] at hIM hd hzm
  clear hfm9
  refine lv_pop hx hb dL_law_365 rfl ?_
  refine lv_goto (tgt := 1358) hx hb dL_law_366 (by decide) ?_
  refine W.widen (k := 100 + 10 * (j + 1)) (n := 3000 + 60 * (j + 1)) (show 100 + 10 * j + 2 + 0 ≤ 100 + 10 * (j + 1) by omega) (show 3000 + 60 * j + 9 + 0 ≤ 3000 + 60 * (j + 1) by omega) ?_
  have hPC9 : zPC v11 v17 v18 w81 := by rw [e46, e48]; exact zPC_new hPC hl15 e49 e109
  have hFF9 : zFF v23 v27 v28 w87 := by rw [e52, e53, e54, e112]; exact hFF
  have hRE9 : zRE v29 v32 v33 v34 v35 w90 := by rw [e55, e56, e57, e58, e59, e116]; exact hRE
  have hKR8 : zKR v36 v37 w92 w93 := by rw [e60, e61, e119, e120]; exact hKR
  exact fin _ _ _ (z_LI hIX hIM hzx hzm hd ⟨(e98.trans e40.symm), (e99.trans e41.symm), (e100.trans e42.symm), (e101.trans e43.symm), (e102.trans e44.symm), (e103.trans e45.symm), (e104.trans e46.symm), (e105.trans e47.symm), (e107.trans e50.symm), (e106.trans e48.symm), (e108.trans e51.symm), (e110.trans e52.symm), (e111.trans e53.symm), (e113.trans e55.symm), (e114.trans e56.symm), (e115.trans e57.symm), (e117.trans e58.symm), (e122.trans e63.symm), (e118.trans e60.symm), (e121.trans e62.symm), hPC9, hFF9, hRE9, hKR8⟩) hS (lv_sub hl [0, 1, 2, 3] rfl)
set_option maxHeartbeats 4000000 in
set_option maxRecDepth 100000 in
theorem law_case_5 {p : Program} {l : Launch} {e : Env} {s : State} {m : MethodId} {below : List Frame} {meth : Method} {c : Code} {D : va_G} {cy : Nat → ClassId} {b L : Nat} {xs : Nat → Int32} {o mo j : Nat} (C : zC D cy p s m #[Value.ref b] meth c RL cL_law 4) (hXs : va_X b L xs s s.heap) (hbl : b < s.heap.size) (hbA : ¬ zLA s b) (hL : L ≤ 2560) (hj : 5 * j + 5 ≤ L) (fin : ∀ (H : Heap) (locs : List Loc) (ls : Array Slot), zLI D cy s o mo H → va_S (zLA s) s.heap H locs → lv_has ls 4 [(0, .ref b), (1, .ref o), (2, .ref mo), (3, .int (nI (5 * j)))] → W p l e room_1 s m #[Value.ref b] below meth c H locs (100 + 10 * (j + 1)) (3000 + 60 * (j + 1)) (lw_Z below #[Value.ref b] s) (F0 m 1358 ls [])) {H : Heap} {locs : List Loc} {ls : Array Slot} (hLI : zLI D cy s o mo H) (hS : va_S (zLA s) s.heap H locs) (hl : lv_has ls 4 [(0, .ref b), (1, .ref o), (2, .ref mo), (3, .int (nI (5 * j)))]) : W p l e room_1 s m #[Value.ref b] below meth c H locs (100 + 10 * j) (3000 + 60 * j) (lw_Z below #[Value.ref b] s) (F0 m 369 ls []) := by
  have hx := C.1
  have hb := C.2.1
  have hA : ∀ q, s.heap.size ≤ q → zLA s q := fun q h => h
  refine Exists.elim hLI fun fX h90 => h90.elim fun fM h91 => h91.elim fun fa h92 => h92.elim fun fi h93 => h93.elim fun nu h94 => h94.elim fun fm h95 => h95.elim fun co h96 => h96.elim fun en h97 => h97.elim fun ke h98 => h98.elim fun ev h99 => h99.elim fun al h910 => h910.elim fun ra h911 => h911.elim fun kn h912 => h912.elim fun vq h913 => h913.elim fun ge h914 => h914.elim fun ea h915 => h915.elim fun ma h916 => h916.elim fun u1 h917 => h917.elim fun u2 h918 => h918.elim fun u3 h919 => h919.elim fun gv h920 => h920.elim fun nl h921 => h921.elim fun gu h922 => h922.elim fun nn h923 => h923.elim fun ga h924 => h924.elim fun gr h925 => h925.elim fun fg h926 => h926.elim fun pt h927 => h927.elim fun kd h928 => h928.elim fun ln h929 => h929.elim fun pp h930 => h930.elim fun wg h931 => h931.elim fun wd h932 => h932.elim fun hs h933 => h933.elim fun bf h934 => h934.elim fun nf h935 => h935.elim fun gf h936 => h936.elim fun fq h937 => h937.elim fun fk h938 => h938.elim fun fz h939 => h939.elim fun fc h940 => h940.elim fun nc h941 => h941.elim fun gc h942 => h942.elim fun cn h943 => h943.elim fun ce h944 => h944.elim fun cm h945 => h945.elim fun sq h946 => h946.elim fun mb h947 => h947.elim fun ks h948 => h948.elim fun kk h949 => h949.elim fun kv h950 => h950.elim fun lk h951 => h951.elim fun m_wev h952 => h952.elim fun m_wnb h953 => h953.elim fun m_wki h954 => h954.elim fun m_wmy h955 => h955.elim fun m_wce h956 => h956.elim fun m_wiw h957 => h957.elim fun m_wli h958 => h958.elim fun m_wha h959 => h959.elim fun m_wwt h960 => h960.elim fun m_wfy h961 => h961.elim fun m_wfk h962 => h962.elim fun m_wem h963 => h963.elim fun m_wna h964 => h964.elim fun m_wpl h965 => h965.elim fun m_whs h966 => h966.elim fun m_wk1 h967 => h967.elim fun m_wk2 h968 => h968.elim fun m_wk3 h969 => h969.elim fun m_u1 h970 => h970.elim fun m_u2 h971 => h971.elim fun m_u3 h972 => h972.elim fun m_nl h973 => h973.elim fun m_nn h974 => h974.elim fun m_nf h975 => h975.elim fun m_nc h976 => h976.elim fun m_lk h977 => h977.elim fun m_ks h978 => h978.elim fun m_gv h979 => h979.elim fun m_gu h980 => h980.elim fun m_gk h981 => h981.elim fun m_gm h982 => h982.elim fun m_gc h983 => h983.elim fun m_gw h984 => h984.elim fun m_gl h985 => h985.elim fun m_gh h986 => h986.elim fun m_gt h987 => h987.elim fun m_gy h988 => h988.elim fun m_gq h989 => h989.elim fun m_ge1 h990 => h990.elim fun m_gn1 h991 => h991.elim fun m_gp1 h992 => h992.elim fun m_gs h993 => h993.elim fun m_gx1 h994 => h994.elim fun m_gx2 h995 => h995.elim fun m_gx3 h996 => h996.elim fun m_ln h997 => h997.elim fun m_fz h998 => h998.elim fun m_sq h999 => ?_
  clear hLI h90 h91 h92 h93 h94 h95 h96 h97 h98 h99 h910 h911 h912 h913 h914 h915 h916 h917 h918 h919 h920 h921 h922 h923 h924 h925 h926 h927 h928 h929 h930 h931 h932 h933 h934 h935 h936 h937 h938 h939 h940 h941 h942 h943 h944 h945 h946 h947 h948 h949 h950 h951 h952 h953 h954 h955 h956 h957 h958 h959 h960 h961 h962 h963 h964 h965 h966 h967 h968 h969 h970 h971 h972 h973 h974 h975 h976 h977 h978 h979 h980 h981 h982 h983 h984 h985 h986 h987 h988 h989 h990 h991 h992 h993 h994 h995 h996 h997 h998
  obtain ⟨hIX, hIM, hzx, hzm, hd, rfl, rfl, rfl, rfl, rfl, rfl, rfl, rfl, rfl, rfl, rfl, rfl, rfl, rfl, rfl, rfl, rfl, rfl, rfl, rfl, hPC, hFF, hRE, hKR⟩ := h999
  have hl15 := zIM_ln hIM
  have hfz4 := zIM_fz hIM
  have hn60 := zIM_n60 hIM
  have hf60 := zIM_f60 hIM
  have hc60 := zIM_c60 hIM
  have hs40 := zIM_s40 hIM
  refine lv_aload_n hx hb dL_law_369 rfl (lv_at hl 1 rfl) ?_
  refine lv_aload_n hx hb dL_law_370 rfl (lv_at hl 0 rfl) ?_
  refine lv_iload_n hx hb dL_law_371 rfl (lv_at hl 3 rfl) ?_
  refine lv_iconst (v := 1) hx hb dL_law_372 (by decide) ?_
  refine lv_iadd hx hb dL_law_373 ?_
  refine lv_topi (fun y1 e2 => ?_)
  obtain rfl : y1 = nI (5 * j + 1) := e2.trans (nI_add (5 * j) 1)
  refine z_sld (5 * j + 1) hx hb hXs hbl hbA hS rfl (by omega) (by omega) dL_law_374 ?_
  refine lv_aload_n hx hb dL_law_375 rfl (lv_at hl 0 rfl) ?_
  refine lv_iload_n hx hb dL_law_376 rfl (lv_at hl 3 rfl) ?_
  refine lv_iconst (v := 2) hx hb dL_law_377 (by decide) ?_
  refine lv_iadd hx hb dL_law_378 ?_
  refine lv_topi (fun y3 e4 => ?_)
  obtain rfl : y3 = nI (5 * j + 2) := e4.trans (nI_add (5 * j) 2)
  refine z_sld (5 * j + 2) hx hb hXs hbl hbA hS rfl (by omega) (by omega) dL_law_379 ?_
  refine lv_aload_n hx hb dL_law_380 rfl (lv_at hl 0 rfl) ?_
  refine lv_iload_n hx hb dL_law_381 rfl (lv_at hl 3 rfl) ?_
  refine lv_iconst (v := 3) hx hb dL_law_382 (by decide) ?_
  refine lv_iadd hx hb dL_law_383 ?_
  refine lv_topi (fun y5 e6 => ?_)
  obtain rfl : y5 = nI (5 * j + 3) := e6.trans (nI_add (5 * j) 3)
  refine z_sld (5 * j + 3) hx hb hXs hbl hbA hS rfl (by omega) (by omega) dL_law_384 ?_
  refine z_callVi2 (As := [.int (xs (5 * j + 1)), .int (xs (5 * j + 2)), .int (xs (5 * j + 3))]) C hzx hS hA hl (k_X7_wide l D cy fX o fa fi nu fm co en ke ev al ra kn vq ge ea ma m_u1 m_u2 m_u3 m_gv m_nl m_gu m_nn ga gr fg pt m_gk m_ln pp wg m_gw m_gh bf m_nf gf fq fk m_fz fc m_nc gc cn m_ge1 m_gn1 m_sq mb m_ks kk m_gx3 m_lk (xs (5 * j + 1)) (xs (5 * j + 2)) (xs (5 * j + 3))  hIX) zyX7_wide mML_39 hIX.1 zl7 rfl rfl (Nat.le_of_ble_eq_true rfl) ⟨Nat.le_of_ble_eq_true rfl, Nat.le_of_ble_eq_true rfl⟩ ⟨show 100 + 10 * j + 2 ≤ 600000 by omega, show 3000 + 60 * j + 10 ≤ 7302249 by omega⟩ dL_law_385 (fun r f1 H locs hp hz1 hS hfr => ?_)
  clear hIX
  refine hp.elim fun v7 h90 => h90.elim fun v8 h91 => h91.elim fun v9 h92 => h92.elim fun v10 h93 => h93.elim fun v11 h94 => h94.elim fun v12 h95 => h95.elim fun v13 h96 => h96.elim fun v14 h97 => h97.elim fun v15 h98 => h98.elim fun v16 h99 => h99.elim fun v17 h910 => h910.elim fun v18 h911 => h911.elim fun v19 h912 => h912.elim fun v20 h913 => h913.elim fun v21 h914 => h914.elim fun v22 h915 => h915.elim fun v23 h916 => h916.elim fun v24 h917 => h917.elim fun v25 h918 => h918.elim fun v26 h919 => h919.elim fun v27 h920 => h920.elim fun v28 h921 => h921.elim fun v29 h922 => h922.elim fun v30 h923 => h923.elim fun v31 h924 => h924.elim fun v32 h925 => h925.elim fun v33 h926 => h926.elim fun v34 h927 => h927.elim fun v35 h928 => h928.elim fun v36 h929 => h929.elim fun v37 h930 => h930.elim fun v38 h931 => h931.elim fun v39 h932 => h932.elim fun v40 h933 => h933.elim fun v41 h934 => ?_
  clear hp h90 h91 h92 h93 h94 h95 h96 h97 h98 h99 h910 h911 h912 h913 h914 h915 h916 h917 h918 h919 h920 h921 h922 h923 h924 h925 h926 h927 h928 h929 h930 h931 h932 h933
  obtain ⟨rfl, e42, e43, e44, e45, e46, e47, e48, e49, e50, e51, e52, e53, e54, e55, e56, e57, e58, e59, e60, e61, e62, e63, e64, e65, hIX⟩ := h934
  obtain ⟨hzm, hd⟩ := hfr fM hzm hd
  have hzx := hz1
  clear hz1 hfr
  obtain ⟨fX, hfx9⟩ : ∃ g : zM, g = f1 := ⟨_, rfl⟩
  rw [← hfx9] at hIX hd hzx
  clear hfx9
  refine lv_pop hx hb dL_law_388 rfl ?_
  refine lv_aload_n hx hb dL_law_389 rfl (lv_at hl 2 rfl) ?_
  refine lv_aload_n hx hb dL_law_390 rfl (lv_at hl 0 rfl) ?_
  refine lv_iload_n hx hb dL_law_391 rfl (lv_at hl 3 rfl) ?_
  refine lv_iconst (v := 1) hx hb dL_law_392 (by decide) ?_
  refine lv_iadd hx hb dL_law_393 ?_
  refine lv_topi (fun y66 e67 => ?_)
  obtain rfl : y66 = nI (5 * j + 1) := e67.trans (nI_add (5 * j) 1)
  refine z_sld (5 * j + 1) hx hb hXs hbl hbA hS rfl (by omega) (by omega) dL_law_394 ?_
  refine lv_aload_n hx hb dL_law_395 rfl (lv_at hl 0 rfl) ?_
  refine lv_iload_n hx hb dL_law_396 rfl (lv_at hl 3 rfl) ?_
  refine lv_iconst (v := 2) hx hb dL_law_397 (by decide) ?_
  refine lv_iadd hx hb dL_law_398 ?_
  refine lv_topi (fun y68 e69 => ?_)
  obtain rfl : y68 = nI (5 * j + 2) := e69.trans (nI_add (5 * j) 2)
  refine z_sld (5 * j + 2) hx hb hXs hbl hbA hS rfl (by omega) (by omega) dL_law_399 ?_
  refine lv_aload_n hx hb dL_law_400 rfl (lv_at hl 0 rfl) ?_
  refine lv_iload_n hx hb dL_law_401 rfl (lv_at hl 3 rfl) ?_
  refine lv_iconst (v := 3) hx hb dL_law_402 (by decide) ?_
  refine lv_iadd hx hb dL_law_403 ?_
  refine lv_topi (fun y70 e71 => ?_)
  obtain rfl : y70 = nI (5 * j + 3) := e71.trans (nI_add (5 * j) 3)
  refine z_sld (5 * j + 3) hx hb hXs hbl hbA hS rfl (by omega) (by omega) dL_law_404 ?_
  refine z_callVi2 (As := [.int (xs (5 * j + 1)), .int (xs (5 * j + 2)), .int (xs (5 * j + 3))]) C hzm hS hA hl (k_X8_wide l D cy fM mo m_wev m_wnb m_wki m_wmy m_wce m_wiw m_wli m_wha m_wwt m_wfy m_wfk m_wem m_wna m_wpl m_whs m_wk1 m_wk2 m_wk3 m_u1 m_u2 m_u3 m_nl m_nn m_nf m_nc m_lk m_ks m_gv m_gu m_gk m_gm m_gc m_gw m_gl m_gh m_gt m_gy m_gq m_ge1 m_gn1 m_gp1 m_gs m_gx1 m_gx2 m_gx3 m_ln m_fz m_sq (xs (5 * j + 1)) (xs (5 * j + 2)) (xs (5 * j + 3))  hIM) zyX8_wide mML_43 hIM.1 zl8 rfl rfl (Nat.le_of_ble_eq_true rfl) ⟨Nat.le_of_ble_eq_true rfl, Nat.le_of_ble_eq_true rfl⟩ ⟨show 100 + 10 * j + 2 + 0 ≤ 600000 by omega, show 3000 + 60 * j + 10 + 0 ≤ 7302249 by omega⟩ dL_law_405 (fun r f1 H locs hp hz1 hS hfr => ?_)
  clear hIM
  refine hp.elim fun w72 h90 => h90.elim fun w73 h91 => h91.elim fun w74 h92 => h92.elim fun w75 h93 => h93.elim fun w76 h94 => h94.elim fun w77 h95 => h95.elim fun w78 h96 => h96.elim fun w79 h97 => h97.elim fun w80 h98 => h98.elim fun w81 h99 => h99.elim fun w82 h910 => h910.elim fun w83 h911 => h911.elim fun w84 h912 => h912.elim fun w85 h913 => h913.elim fun w86 h914 => h914.elim fun w87 h915 => h915.elim fun w88 h916 => h916.elim fun w89 h917 => h917.elim fun w90 h918 => h918.elim fun w91 h919 => h919.elim fun w92 h920 => h920.elim fun w93 h921 => h921.elim fun w94 h922 => h922.elim fun w95 h923 => h923.elim fun w96 h924 => h924.elim fun w97 h925 => h925.elim fun w98 h926 => h926.elim fun w99 h927 => h927.elim fun w100 h928 => h928.elim fun w101 h929 => ?_
  clear hp h90 h91 h92 h93 h94 h95 h96 h97 h98 h99 h910 h911 h912 h913 h914 h915 h916 h917 h918 h919 h920 h921 h922 h923 h924 h925 h926 h927 h928
  obtain ⟨rfl, e102, e103, e104, e105, e106, e107, e108, e109, e110, e111, e112, e113, e114, e115, e116, e117, e118, e119, e120, e121, e122, e123, e124, e125, e126, hIM⟩ := h929
  obtain ⟨hzx, hd⟩ := hfr fX hzx (z_dsym hd)
  replace hd := z_dsym hd
  have hzm := hz1
  clear hz1 hfr
  obtain ⟨fM, hfm9⟩ : ∃ g : zM, g = f1 := ⟨_, rfl⟩
  rw [← hfm9] at hIM hd hzm
  clear hfm9
  refine lv_pop hx hb dL_law_408 rfl ?_
  refine lv_goto (tgt := 1358) hx hb dL_law_409 (by decide) ?_
  refine W.widen (k := 100 + 10 * (j + 1)) (n := 3000 + 60 * (j + 1)) (show 100 + 10 * j + 2 + 0 ≤ 100 + 10 * (j + 1) by omega) (show 3000 + 60 * j + 10 + 0 ≤ 3000 + 60 * (j + 1) by omega) ?_
  have hPC9 : zPC v13 v19 v20 w85 := by rw [e48, e50]; exact zPC_new hPC hl15 e51 e113
  have hFF9 : zFF v25 v29 v30 w91 := by rw [e54, e55, e56, e116]; exact hFF
  have hRE9 : zRE v31 v34 v35 v36 v37 w94 := by rw [e57, e58, e59, e60, e61, e120]; exact hRE
  have hKR8 : zKR v38 v39 w96 w97 := by rw [e62, e63, e123, e124]; exact hKR
  exact fin _ _ _ (z_LI hIX hIM hzx hzm hd ⟨(e102.trans e42.symm), (e103.trans e43.symm), (e104.trans e44.symm), (e105.trans e45.symm), (e106.trans e46.symm), (e107.trans e47.symm), (e108.trans e48.symm), (e109.trans e49.symm), (e111.trans e52.symm), (e110.trans e50.symm), (e112.trans e53.symm), (e114.trans e54.symm), (e115.trans e55.symm), (e117.trans e57.symm), (e118.trans e58.symm), (e119.trans e59.symm), (e121.trans e60.symm), (e126.trans e65.symm), (e122.trans e62.symm), (e125.trans e64.symm), hPC9, hFF9, hRE9, hKR8⟩) hS (lv_sub hl [0, 1, 2, 3] rfl)
set_option maxHeartbeats 4000000 in
set_option maxRecDepth 100000 in
theorem law_case_6 {p : Program} {l : Launch} {e : Env} {s : State} {m : MethodId} {below : List Frame} {meth : Method} {c : Code} {D : va_G} {cy : Nat → ClassId} {b L : Nat} {xs : Nat → Int32} {o mo j : Nat} (C : zC D cy p s m #[Value.ref b] meth c RL cL_law 4) (hXs : va_X b L xs s s.heap) (hbl : b < s.heap.size) (hbA : ¬ zLA s b) (hL : L ≤ 2560) (hj : 5 * j + 5 ≤ L) (fin : ∀ (H : Heap) (locs : List Loc) (ls : Array Slot), zLI D cy s o mo H → va_S (zLA s) s.heap H locs → lv_has ls 4 [(0, .ref b), (1, .ref o), (2, .ref mo), (3, .int (nI (5 * j)))] → W p l e room_1 s m #[Value.ref b] below meth c H locs (100 + 10 * (j + 1)) (3000 + 60 * (j + 1)) (lw_Z below #[Value.ref b] s) (F0 m 1358 ls [])) {H : Heap} {locs : List Loc} {ls : Array Slot} (hLI : zLI D cy s o mo H) (hS : va_S (zLA s) s.heap H locs) (hl : lv_has ls 4 [(0, .ref b), (1, .ref o), (2, .ref mo), (3, .int (nI (5 * j)))]) : W p l e room_1 s m #[Value.ref b] below meth c H locs (100 + 10 * j) (3000 + 60 * j) (lw_Z below #[Value.ref b] s) (F0 m 412 ls []) := by
  have hx := C.1
  have hb := C.2.1
  have hA : ∀ q, s.heap.size ≤ q → zLA s q := fun q h => h
  refine Exists.elim hLI fun fX h90 => h90.elim fun fM h91 => h91.elim fun fa h92 => h92.elim fun fi h93 => h93.elim fun nu h94 => h94.elim fun fm h95 => h95.elim fun co h96 => h96.elim fun en h97 => h97.elim fun ke h98 => h98.elim fun ev h99 => h99.elim fun al h910 => h910.elim fun ra h911 => h911.elim fun kn h912 => h912.elim fun vq h913 => h913.elim fun ge h914 => h914.elim fun ea h915 => h915.elim fun ma h916 => h916.elim fun u1 h917 => h917.elim fun u2 h918 => h918.elim fun u3 h919 => h919.elim fun gv h920 => h920.elim fun nl h921 => h921.elim fun gu h922 => h922.elim fun nn h923 => h923.elim fun ga h924 => h924.elim fun gr h925 => h925.elim fun fg h926 => h926.elim fun pt h927 => h927.elim fun kd h928 => h928.elim fun ln h929 => h929.elim fun pp h930 => h930.elim fun wg h931 => h931.elim fun wd h932 => h932.elim fun hs h933 => h933.elim fun bf h934 => h934.elim fun nf h935 => h935.elim fun gf h936 => h936.elim fun fq h937 => h937.elim fun fk h938 => h938.elim fun fz h939 => h939.elim fun fc h940 => h940.elim fun nc h941 => h941.elim fun gc h942 => h942.elim fun cn h943 => h943.elim fun ce h944 => h944.elim fun cm h945 => h945.elim fun sq h946 => h946.elim fun mb h947 => h947.elim fun ks h948 => h948.elim fun kk h949 => h949.elim fun kv h950 => h950.elim fun lk h951 => h951.elim fun m_wev h952 => h952.elim fun m_wnb h953 => h953.elim fun m_wki h954 => h954.elim fun m_wmy h955 => h955.elim fun m_wce h956 => h956.elim fun m_wiw h957 => h957.elim fun m_wli h958 => h958.elim fun m_wha h959 => h959.elim fun m_wwt h960 => h960.elim fun m_wfy h961 => h961.elim fun m_wfk h962 => h962.elim fun m_wem h963 => h963.elim fun m_wna h964 => h964.elim fun m_wpl h965 => h965.elim fun m_whs h966 => h966.elim fun m_wk1 h967 => h967.elim fun m_wk2 h968 => h968.elim fun m_wk3 h969 => h969.elim fun m_u1 h970 => h970.elim fun m_u2 h971 => h971.elim fun m_u3 h972 => h972.elim fun m_nl h973 => h973.elim fun m_nn h974 => h974.elim fun m_nf h975 => h975.elim fun m_nc h976 => h976.elim fun m_lk h977 => h977.elim fun m_ks h978 => h978.elim fun m_gv h979 => h979.elim fun m_gu h980 => h980.elim fun m_gk h981 => h981.elim fun m_gm h982 => h982.elim fun m_gc h983 => h983.elim fun m_gw h984 => h984.elim fun m_gl h985 => h985.elim fun m_gh h986 => h986.elim fun m_gt h987 => h987.elim fun m_gy h988 => h988.elim fun m_gq h989 => h989.elim fun m_ge1 h990 => h990.elim fun m_gn1 h991 => h991.elim fun m_gp1 h992 => h992.elim fun m_gs h993 => h993.elim fun m_gx1 h994 => h994.elim fun m_gx2 h995 => h995.elim fun m_gx3 h996 => h996.elim fun m_ln h997 => h997.elim fun m_fz h998 => h998.elim fun m_sq h999 => ?_
  clear hLI h90 h91 h92 h93 h94 h95 h96 h97 h98 h99 h910 h911 h912 h913 h914 h915 h916 h917 h918 h919 h920 h921 h922 h923 h924 h925 h926 h927 h928 h929 h930 h931 h932 h933 h934 h935 h936 h937 h938 h939 h940 h941 h942 h943 h944 h945 h946 h947 h948 h949 h950 h951 h952 h953 h954 h955 h956 h957 h958 h959 h960 h961 h962 h963 h964 h965 h966 h967 h968 h969 h970 h971 h972 h973 h974 h975 h976 h977 h978 h979 h980 h981 h982 h983 h984 h985 h986 h987 h988 h989 h990 h991 h992 h993 h994 h995 h996 h997 h998
  obtain ⟨hIX, hIM, hzx, hzm, hd, rfl, rfl, rfl, rfl, rfl, rfl, rfl, rfl, rfl, rfl, rfl, rfl, rfl, rfl, rfl, rfl, rfl, rfl, rfl, rfl, hPC, hFF, hRE, hKR⟩ := h999
  have hl15 := zIM_ln hIM
  have hfz4 := zIM_fz hIM
  have hn60 := zIM_n60 hIM
  have hf60 := zIM_f60 hIM
  have hc60 := zIM_c60 hIM
  have hs40 := zIM_s40 hIM
  refine lv_aload_n hx hb dL_law_412 rfl (lv_at hl 1 rfl) ?_
  refine lv_aload_n hx hb dL_law_413 rfl (lv_at hl 0 rfl) ?_
  refine lv_iload_n hx hb dL_law_414 rfl (lv_at hl 3 rfl) ?_
  refine lv_iconst (v := 1) hx hb dL_law_415 (by decide) ?_
  refine lv_iadd hx hb dL_law_416 ?_
  refine lv_topi (fun y1 e2 => ?_)
  obtain rfl : y1 = nI (5 * j + 1) := e2.trans (nI_add (5 * j) 1)
  refine z_sld (5 * j + 1) hx hb hXs hbl hbA hS rfl (by omega) (by omega) dL_law_417 ?_
  refine lv_i2l (v := (xs (5 * j + 1)).toInt64) hx hb dL_law_418 rfl ?_
  refine lv_bipush (v := 32) hx hb dL_law_419 (by decide) ?_
  refine lv_lshl (v := ((xs (5 * j + 1)).toInt64) <<< ((32 : Int32).toInt64 &&& 63)) hx hb dL_law_421 rfl ?_
  refine lv_aload_n hx hb dL_law_422 rfl (lv_at hl 0 rfl) ?_
  refine lv_iload_n hx hb dL_law_423 rfl (lv_at hl 3 rfl) ?_
  refine lv_iconst (v := 2) hx hb dL_law_424 (by decide) ?_
  refine lv_iadd hx hb dL_law_425 ?_
  refine lv_topi (fun y3 e4 => ?_)
  obtain rfl : y3 = nI (5 * j + 2) := e4.trans (nI_add (5 * j) 2)
  refine z_sld (5 * j + 2) hx hb hXs hbl hbA hS rfl (by omega) (by omega) dL_law_426 ?_
  refine lv_i2l (v := (xs (5 * j + 2)).toInt64) hx hb dL_law_427 rfl ?_
  refine lv_ldc2 (v := 4294967295) hx hb C.2.2.2.1 (C.2.2.2.2.1 _ mKL_27) dL_law_428 ?_
  refine lv_land hx hb dL_law_431 ?_
  refine lv_lor hx hb dL_law_432 ?_
  refine lv_aload_n hx hb dL_law_433 rfl (lv_at hl 0 rfl) ?_
  refine lv_iload_n hx hb dL_law_434 rfl (lv_at hl 3 rfl) ?_
  refine lv_iconst (v := 3) hx hb dL_law_435 (by decide) ?_
  refine lv_iadd hx hb dL_law_436 ?_
  refine lv_topi (fun y5 e6 => ?_)
  obtain rfl : y5 = nI (5 * j + 3) := e6.trans (nI_add (5 * j) 3)
  refine z_sld (5 * j + 3) hx hb hXs hbl hbA hS rfl (by omega) (by omega) dL_law_437 ?_
  refine lv_i2l (v := (xs (5 * j + 3)).toInt64) hx hb dL_law_438 rfl ?_
  refine lv_bipush (v := 32) hx hb dL_law_439 (by decide) ?_
  refine lv_lshl (v := ((xs (5 * j + 3)).toInt64) <<< ((32 : Int32).toInt64 &&& 63)) hx hb dL_law_441 rfl ?_
  refine lv_aload_n hx hb dL_law_442 rfl (lv_at hl 0 rfl) ?_
  refine lv_iload_n hx hb dL_law_443 rfl (lv_at hl 3 rfl) ?_
  refine lv_iconst (v := 4) hx hb dL_law_444 (by decide) ?_
  refine lv_iadd hx hb dL_law_445 ?_
  refine lv_topi (fun y7 e8 => ?_)
  obtain rfl : y7 = nI (5 * j + 4) := e8.trans (nI_add (5 * j) 4)
  refine z_sld (5 * j + 4) hx hb hXs hbl hbA hS rfl (by omega) (by omega) dL_law_446 ?_
  refine lv_i2l (v := (xs (5 * j + 4)).toInt64) hx hb dL_law_447 rfl ?_
  refine lv_ldc2 (v := 4294967295) hx hb C.2.2.2.1 (C.2.2.2.2.1 _ mKL_27) dL_law_448 ?_
  refine lv_land hx hb dL_law_451 ?_
  refine lv_lor hx hb dL_law_452 ?_
  refine z_callVi2 (As := [.long ((((xs (5 * j + 1)).toInt64) <<< ((32 : Int32).toInt64 &&& 63)) ||| (((xs (5 * j + 2)).toInt64) &&& 4294967295)), .long ((((xs (5 * j + 3)).toInt64) <<< ((32 : Int32).toInt64 &&& 63)) ||| (((xs (5 * j + 4)).toInt64) &&& 4294967295))]) C hzx hS hA hl (k_X7_share l D cy fX o fa fi nu fm co en ke ev al ra kn vq ge ea ma m_u1 m_u2 m_u3 m_gv m_nl m_gu m_nn ga gr fg pt m_gk m_ln pp wg m_gw m_gh bf m_nf gf fq fk m_fz fc m_nc gc cn m_ge1 m_gn1 m_sq mb m_ks kk m_gx3 m_lk ((((xs (5 * j + 1)).toInt64) <<< ((32 : Int32).toInt64 &&& 63)) ||| (((xs (5 * j + 2)).toInt64) &&& 4294967295)) ((((xs (5 * j + 3)).toInt64) <<< ((32 : Int32).toInt64 &&& 63)) ||| (((xs (5 * j + 4)).toInt64) &&& 4294967295))  hIX) zyX7_share mML_44 hIX.1 zl7 rfl rfl (Nat.le_of_ble_eq_true rfl) ⟨Nat.le_of_ble_eq_true rfl, Nat.le_of_ble_eq_true rfl⟩ ⟨show 100 + 10 * j + 2 ≤ 600000 by omega, show 3000 + 60 * j + 10 ≤ 7302249 by omega⟩ dL_law_453 (fun r f1 H locs hp hz1 hS hfr => ?_)
  clear hIX
  refine hp.elim fun v9 h90 => h90.elim fun v10 h91 => h91.elim fun v11 h92 => h92.elim fun v12 h93 => h93.elim fun v13 h94 => h94.elim fun v14 h95 => h95.elim fun v15 h96 => h96.elim fun v16 h97 => h97.elim fun v17 h98 => h98.elim fun v18 h99 => h99.elim fun v19 h910 => h910.elim fun v20 h911 => h911.elim fun v21 h912 => h912.elim fun v22 h913 => h913.elim fun v23 h914 => h914.elim fun v24 h915 => h915.elim fun v25 h916 => h916.elim fun v26 h917 => h917.elim fun v27 h918 => h918.elim fun v28 h919 => h919.elim fun v29 h920 => h920.elim fun v30 h921 => h921.elim fun v31 h922 => h922.elim fun v32 h923 => h923.elim fun v33 h924 => h924.elim fun v34 h925 => h925.elim fun v35 h926 => h926.elim fun v36 h927 => h927.elim fun v37 h928 => h928.elim fun v38 h929 => h929.elim fun v39 h930 => h930.elim fun v40 h931 => h931.elim fun v41 h932 => h932.elim fun v42 h933 => h933.elim fun v43 h934 => ?_
  clear hp h90 h91 h92 h93 h94 h95 h96 h97 h98 h99 h910 h911 h912 h913 h914 h915 h916 h917 h918 h919 h920 h921 h922 h923 h924 h925 h926 h927 h928 h929 h930 h931 h932 h933
  obtain ⟨rfl, e44, e45, e46, e47, e48, e49, e50, e51, e52, e53, e54, e55, e56, e57, e58, e59, e60, e61, e62, e63, e64, e65, e66, e67, hIX⟩ := h934
  obtain ⟨hzm, hd⟩ := hfr fM hzm hd
  have hzx := hz1
  clear hz1 hfr
  obtain ⟨fX, hfx9⟩ : ∃ g : zM, g = f1 := ⟨_, rfl⟩
  rw [← hfx9] at hIX hd hzx
  clear hfx9
  refine lv_pop hx hb dL_law_456 rfl ?_
  refine lv_aload_n hx hb dL_law_457 rfl (lv_at hl 2 rfl) ?_
  refine lv_aload_n hx hb dL_law_458 rfl (lv_at hl 0 rfl) ?_
  refine lv_iload_n hx hb dL_law_459 rfl (lv_at hl 3 rfl) ?_
  refine lv_iconst (v := 1) hx hb dL_law_460 (by decide) ?_
  refine lv_iadd hx hb dL_law_461 ?_
  refine lv_topi (fun y68 e69 => ?_)
  obtain rfl : y68 = nI (5 * j + 1) := e69.trans (nI_add (5 * j) 1)
  refine z_sld (5 * j + 1) hx hb hXs hbl hbA hS rfl (by omega) (by omega) dL_law_462 ?_
  refine lv_i2l (v := (xs (5 * j + 1)).toInt64) hx hb dL_law_463 rfl ?_
  refine lv_bipush (v := 32) hx hb dL_law_464 (by decide) ?_
  refine lv_lshl (v := ((xs (5 * j + 1)).toInt64) <<< ((32 : Int32).toInt64 &&& 63)) hx hb dL_law_466 rfl ?_
  refine lv_aload_n hx hb dL_law_467 rfl (lv_at hl 0 rfl) ?_
  refine lv_iload_n hx hb dL_law_468 rfl (lv_at hl 3 rfl) ?_
  refine lv_iconst (v := 2) hx hb dL_law_469 (by decide) ?_
  refine lv_iadd hx hb dL_law_470 ?_
  refine lv_topi (fun y70 e71 => ?_)
  obtain rfl : y70 = nI (5 * j + 2) := e71.trans (nI_add (5 * j) 2)
  refine z_sld (5 * j + 2) hx hb hXs hbl hbA hS rfl (by omega) (by omega) dL_law_471 ?_
  refine lv_i2l (v := (xs (5 * j + 2)).toInt64) hx hb dL_law_472 rfl ?_
  refine lv_ldc2 (v := 4294967295) hx hb C.2.2.2.1 (C.2.2.2.2.1 _ mKL_27) dL_law_473 ?_
  refine lv_land hx hb dL_law_476 ?_
  refine lv_lor hx hb dL_law_477 ?_
  refine lv_aload_n hx hb dL_law_478 rfl (lv_at hl 0 rfl) ?_
  refine lv_iload_n hx hb dL_law_479 rfl (lv_at hl 3 rfl) ?_
  refine lv_iconst (v := 3) hx hb dL_law_480 (by decide) ?_
  refine lv_iadd hx hb dL_law_481 ?_
  refine lv_topi (fun y72 e73 => ?_)
  obtain rfl : y72 = nI (5 * j + 3) := e73.trans (nI_add (5 * j) 3)
  refine z_sld (5 * j + 3) hx hb hXs hbl hbA hS rfl (by omega) (by omega) dL_law_482 ?_
  refine lv_i2l (v := (xs (5 * j + 3)).toInt64) hx hb dL_law_483 rfl ?_
  refine lv_bipush (v := 32) hx hb dL_law_484 (by decide) ?_
  refine lv_lshl (v := ((xs (5 * j + 3)).toInt64) <<< ((32 : Int32).toInt64 &&& 63)) hx hb dL_law_486 rfl ?_
  refine lv_aload_n hx hb dL_law_487 rfl (lv_at hl 0 rfl) ?_
  refine lv_iload_n hx hb dL_law_488 rfl (lv_at hl 3 rfl) ?_
  refine lv_iconst (v := 4) hx hb dL_law_489 (by decide) ?_
  refine lv_iadd hx hb dL_law_490 ?_
  refine lv_topi (fun y74 e75 => ?_)
  obtain rfl : y74 = nI (5 * j + 4) := e75.trans (nI_add (5 * j) 4)
  refine z_sld (5 * j + 4) hx hb hXs hbl hbA hS rfl (by omega) (by omega) dL_law_491 ?_
  refine lv_i2l (v := (xs (5 * j + 4)).toInt64) hx hb dL_law_492 rfl ?_
  refine lv_ldc2 (v := 4294967295) hx hb C.2.2.2.1 (C.2.2.2.2.1 _ mKL_27) dL_law_493 ?_
  refine lv_land hx hb dL_law_496 ?_
  refine lv_lor hx hb dL_law_497 ?_
  refine z_callVi2 (As := [.long ((((xs (5 * j + 1)).toInt64) <<< ((32 : Int32).toInt64 &&& 63)) ||| (((xs (5 * j + 2)).toInt64) &&& 4294967295)), .long ((((xs (5 * j + 3)).toInt64) <<< ((32 : Int32).toInt64 &&& 63)) ||| (((xs (5 * j + 4)).toInt64) &&& 4294967295))]) C hzm hS hA hl (k_X8_share l D cy fM mo m_wev m_wnb m_wki m_wmy m_wce m_wiw m_wli m_wha m_wwt m_wfy m_wfk m_wem m_wna m_wpl m_whs m_wk1 m_wk2 m_wk3 m_u1 m_u2 m_u3 m_nl m_nn m_nf m_nc m_lk m_ks m_gv m_gu m_gk m_gm m_gc m_gw m_gl m_gh m_gt m_gy m_gq m_ge1 m_gn1 m_gp1 m_gs m_gx1 m_gx2 m_gx3 m_ln m_fz m_sq ((((xs (5 * j + 1)).toInt64) <<< ((32 : Int32).toInt64 &&& 63)) ||| (((xs (5 * j + 2)).toInt64) &&& 4294967295)) ((((xs (5 * j + 3)).toInt64) <<< ((32 : Int32).toInt64 &&& 63)) ||| (((xs (5 * j + 4)).toInt64) &&& 4294967295))  hIM) zyX8_share mML_47 hIM.1 zl8 rfl rfl (Nat.le_of_ble_eq_true rfl) ⟨Nat.le_of_ble_eq_true rfl, Nat.le_of_ble_eq_true rfl⟩ ⟨show 100 + 10 * j + 2 + 0 ≤ 600000 by omega, show 3000 + 60 * j + 10 + 0 ≤ 7302249 by omega⟩ dL_law_498 (fun r f1 H locs hp hz1 hS hfr => ?_)
  clear hIM
  refine hp.elim fun w76 h90 => h90.elim fun w77 h91 => h91.elim fun w78 h92 => h92.elim fun w79 h93 => h93.elim fun w80 h94 => h94.elim fun w81 h95 => h95.elim fun w82 h96 => h96.elim fun w83 h97 => h97.elim fun w84 h98 => h98.elim fun w85 h99 => h99.elim fun w86 h910 => h910.elim fun w87 h911 => h911.elim fun w88 h912 => h912.elim fun w89 h913 => h913.elim fun w90 h914 => h914.elim fun w91 h915 => h915.elim fun w92 h916 => h916.elim fun w93 h917 => h917.elim fun w94 h918 => h918.elim fun w95 h919 => h919.elim fun w96 h920 => h920.elim fun w97 h921 => h921.elim fun w98 h922 => h922.elim fun w99 h923 => h923.elim fun w100 h924 => h924.elim fun w101 h925 => h925.elim fun w102 h926 => h926.elim fun w103 h927 => h927.elim fun w104 h928 => h928.elim fun w105 h929 => ?_
  clear hp h90 h91 h92 h93 h94 h95 h96 h97 h98 h99 h910 h911 h912 h913 h914 h915 h916 h917 h918 h919 h920 h921 h922 h923 h924 h925 h926 h927 h928
  obtain ⟨rfl, e106, e107, e108, e109, e110, e111, e112, e113, e114, e115, e116, e117, e118, e119, e120, e121, e122, e123, e124, e125, e126, e127, e128, e129, e130, hIM⟩ := h929
  obtain ⟨hzx, hd⟩ := hfr fX hzx (z_dsym hd)
  replace hd := z_dsym hd
  have hzm := hz1
  clear hz1 hfr
  obtain ⟨fM, hfm9⟩ : ∃ g : zM, g = f1 := ⟨_, rfl⟩
  rw [← hfm9] at hIM hd hzm
  clear hfm9
  refine lv_pop hx hb dL_law_501 rfl ?_
  refine lv_goto (tgt := 1358) hx hb dL_law_502 (by decide) ?_
  refine W.widen (k := 100 + 10 * (j + 1)) (n := 3000 + 60 * (j + 1)) (show 100 + 10 * j + 2 + 0 ≤ 100 + 10 * (j + 1) by omega) (show 3000 + 60 * j + 10 + 0 ≤ 3000 + 60 * (j + 1) by omega) ?_
  have hPC9 : zPC v15 v21 v22 w89 := by rw [e50, e52]; exact zPC_new hPC hl15 e53 e117
  have hFF9 : zFF v27 v31 v32 w95 := by rw [e56, e57, e58, e120]; exact hFF
  have hRE9 : zRE v33 v36 v37 v38 v39 w98 := by rw [e59, e60, e61, e62, e63, e124]; exact hRE
  have hKR8 : zKR v40 v41 w100 w101 := by rw [e64, e65, e127, e128]; exact hKR
  exact fin _ _ _ (z_LI hIX hIM hzx hzm hd ⟨(e106.trans e44.symm), (e107.trans e45.symm), (e108.trans e46.symm), (e109.trans e47.symm), (e110.trans e48.symm), (e111.trans e49.symm), (e112.trans e50.symm), (e113.trans e51.symm), (e115.trans e54.symm), (e114.trans e52.symm), (e116.trans e55.symm), (e118.trans e56.symm), (e119.trans e57.symm), (e121.trans e59.symm), (e122.trans e60.symm), (e123.trans e61.symm), (e125.trans e62.symm), (e130.trans e67.symm), (e126.trans e64.symm), (e129.trans e66.symm), hPC9, hFF9, hRE9, hKR8⟩) hS (lv_sub hl [0, 1, 2, 3] rfl)
set_option maxHeartbeats 4000000 in
set_option maxRecDepth 100000 in
theorem law_case_7 {p : Program} {l : Launch} {e : Env} {s : State} {m : MethodId} {below : List Frame} {meth : Method} {c : Code} {D : va_G} {cy : Nat → ClassId} {b L : Nat} {xs : Nat → Int32} {o mo j : Nat} (C : zC D cy p s m #[Value.ref b] meth c RL cL_law 4) (hXs : va_X b L xs s s.heap) (hbl : b < s.heap.size) (hbA : ¬ zLA s b) (hL : L ≤ 2560) (hj : 5 * j + 5 ≤ L) (fin : ∀ (H : Heap) (locs : List Loc) (ls : Array Slot), zLI D cy s o mo H → va_S (zLA s) s.heap H locs → lv_has ls 4 [(0, .ref b), (1, .ref o), (2, .ref mo), (3, .int (nI (5 * j)))] → W p l e room_1 s m #[Value.ref b] below meth c H locs (100 + 10 * (j + 1)) (3000 + 60 * (j + 1)) (lw_Z below #[Value.ref b] s) (F0 m 1358 ls [])) {H : Heap} {locs : List Loc} {ls : Array Slot} (hLI : zLI D cy s o mo H) (hS : va_S (zLA s) s.heap H locs) (hl : lv_has ls 4 [(0, .ref b), (1, .ref o), (2, .ref mo), (3, .int (nI (5 * j)))]) : W p l e room_1 s m #[Value.ref b] below meth c H locs (100 + 10 * j) (3000 + 60 * j) (lw_Z below #[Value.ref b] s) (F0 m 505 ls []) := by
  have hx := C.1
  have hb := C.2.1
  have hA : ∀ q, s.heap.size ≤ q → zLA s q := fun q h => h
  refine Exists.elim hLI fun fX h90 => h90.elim fun fM h91 => h91.elim fun fa h92 => h92.elim fun fi h93 => h93.elim fun nu h94 => h94.elim fun fm h95 => h95.elim fun co h96 => h96.elim fun en h97 => h97.elim fun ke h98 => h98.elim fun ev h99 => h99.elim fun al h910 => h910.elim fun ra h911 => h911.elim fun kn h912 => h912.elim fun vq h913 => h913.elim fun ge h914 => h914.elim fun ea h915 => h915.elim fun ma h916 => h916.elim fun u1 h917 => h917.elim fun u2 h918 => h918.elim fun u3 h919 => h919.elim fun gv h920 => h920.elim fun nl h921 => h921.elim fun gu h922 => h922.elim fun nn h923 => h923.elim fun ga h924 => h924.elim fun gr h925 => h925.elim fun fg h926 => h926.elim fun pt h927 => h927.elim fun kd h928 => h928.elim fun ln h929 => h929.elim fun pp h930 => h930.elim fun wg h931 => h931.elim fun wd h932 => h932.elim fun hs h933 => h933.elim fun bf h934 => h934.elim fun nf h935 => h935.elim fun gf h936 => h936.elim fun fq h937 => h937.elim fun fk h938 => h938.elim fun fz h939 => h939.elim fun fc h940 => h940.elim fun nc h941 => h941.elim fun gc h942 => h942.elim fun cn h943 => h943.elim fun ce h944 => h944.elim fun cm h945 => h945.elim fun sq h946 => h946.elim fun mb h947 => h947.elim fun ks h948 => h948.elim fun kk h949 => h949.elim fun kv h950 => h950.elim fun lk h951 => h951.elim fun m_wev h952 => h952.elim fun m_wnb h953 => h953.elim fun m_wki h954 => h954.elim fun m_wmy h955 => h955.elim fun m_wce h956 => h956.elim fun m_wiw h957 => h957.elim fun m_wli h958 => h958.elim fun m_wha h959 => h959.elim fun m_wwt h960 => h960.elim fun m_wfy h961 => h961.elim fun m_wfk h962 => h962.elim fun m_wem h963 => h963.elim fun m_wna h964 => h964.elim fun m_wpl h965 => h965.elim fun m_whs h966 => h966.elim fun m_wk1 h967 => h967.elim fun m_wk2 h968 => h968.elim fun m_wk3 h969 => h969.elim fun m_u1 h970 => h970.elim fun m_u2 h971 => h971.elim fun m_u3 h972 => h972.elim fun m_nl h973 => h973.elim fun m_nn h974 => h974.elim fun m_nf h975 => h975.elim fun m_nc h976 => h976.elim fun m_lk h977 => h977.elim fun m_ks h978 => h978.elim fun m_gv h979 => h979.elim fun m_gu h980 => h980.elim fun m_gk h981 => h981.elim fun m_gm h982 => h982.elim fun m_gc h983 => h983.elim fun m_gw h984 => h984.elim fun m_gl h985 => h985.elim fun m_gh h986 => h986.elim fun m_gt h987 => h987.elim fun m_gy h988 => h988.elim fun m_gq h989 => h989.elim fun m_ge1 h990 => h990.elim fun m_gn1 h991 => h991.elim fun m_gp1 h992 => h992.elim fun m_gs h993 => h993.elim fun m_gx1 h994 => h994.elim fun m_gx2 h995 => h995.elim fun m_gx3 h996 => h996.elim fun m_ln h997 => h997.elim fun m_fz h998 => h998.elim fun m_sq h999 => ?_
  clear hLI h90 h91 h92 h93 h94 h95 h96 h97 h98 h99 h910 h911 h912 h913 h914 h915 h916 h917 h918 h919 h920 h921 h922 h923 h924 h925 h926 h927 h928 h929 h930 h931 h932 h933 h934 h935 h936 h937 h938 h939 h940 h941 h942 h943 h944 h945 h946 h947 h948 h949 h950 h951 h952 h953 h954 h955 h956 h957 h958 h959 h960 h961 h962 h963 h964 h965 h966 h967 h968 h969 h970 h971 h972 h973 h974 h975 h976 h977 h978 h979 h980 h981 h982 h983 h984 h985 h986 h987 h988 h989 h990 h991 h992 h993 h994 h995 h996 h997 h998
  obtain ⟨hIX, hIM, hzx, hzm, hd, rfl, rfl, rfl, rfl, rfl, rfl, rfl, rfl, rfl, rfl, rfl, rfl, rfl, rfl, rfl, rfl, rfl, rfl, rfl, rfl, hPC, hFF, hRE, hKR⟩ := h999
  have hl15 := zIM_ln hIM
  have hfz4 := zIM_fz hIM
  have hn60 := zIM_n60 hIM
  have hf60 := zIM_f60 hIM
  have hc60 := zIM_c60 hIM
  have hs40 := zIM_s40 hIM
  refine lv_aload_n hx hb dL_law_505 rfl (lv_at hl 1 rfl) ?_
  refine lv_aload_n hx hb dL_law_506 rfl (lv_at hl 0 rfl) ?_
  refine lv_iload_n hx hb dL_law_507 rfl (lv_at hl 3 rfl) ?_
  refine lv_iconst (v := 1) hx hb dL_law_508 (by decide) ?_
  refine lv_iadd hx hb dL_law_509 ?_
  refine lv_topi (fun y1 e2 => ?_)
  obtain rfl : y1 = nI (5 * j + 1) := e2.trans (nI_add (5 * j) 1)
  refine z_sld (5 * j + 1) hx hb hXs hbl hbA hS rfl (by omega) (by omega) dL_law_510 ?_
  refine lv_aload_n hx hb dL_law_511 rfl (lv_at hl 0 rfl) ?_
  refine lv_iload_n hx hb dL_law_512 rfl (lv_at hl 3 rfl) ?_
  refine lv_iconst (v := 2) hx hb dL_law_513 (by decide) ?_
  refine lv_iadd hx hb dL_law_514 ?_
  refine lv_topi (fun y3 e4 => ?_)
  obtain rfl : y3 = nI (5 * j + 2) := e4.trans (nI_add (5 * j) 2)
  refine z_sld (5 * j + 2) hx hb hXs hbl hbA hS rfl (by omega) (by omega) dL_law_515 ?_
  refine z_callVi2 (As := [.int (xs (5 * j + 1)), .int (xs (5 * j + 2))]) C hzx hS hA hl (k_X7_pair l D cy fX o fa fi nu fm co en ke ev al ra kn vq ge ea ma m_u1 m_u2 m_u3 m_gv m_nl m_gu m_nn ga gr fg pt m_gk m_ln pp wg m_gw m_gh bf m_nf gf fq fk m_fz fc m_nc gc cn m_ge1 m_gn1 m_sq mb m_ks kk m_gx3 m_lk (xs (5 * j + 1)) (xs (5 * j + 2))  hIX) zyX7_pair mML_48 hIX.1 zl7 rfl rfl (Nat.le_of_ble_eq_true rfl) ⟨Nat.le_of_ble_eq_true rfl, Nat.le_of_ble_eq_true rfl⟩ ⟨show 100 + 10 * j + 2 ≤ 600000 by omega, show 3000 + 60 * j + 9 ≤ 7302249 by omega⟩ dL_law_516 (fun r f1 H locs hp hz1 hS hfr => ?_)
  clear hIX
  refine hp.elim fun v5 h90 => h90.elim fun v6 h91 => h91.elim fun v7 h92 => h92.elim fun v8 h93 => h93.elim fun v9 h94 => h94.elim fun v10 h95 => h95.elim fun v11 h96 => h96.elim fun v12 h97 => h97.elim fun v13 h98 => h98.elim fun v14 h99 => h99.elim fun v15 h910 => h910.elim fun v16 h911 => h911.elim fun v17 h912 => h912.elim fun v18 h913 => h913.elim fun v19 h914 => h914.elim fun v20 h915 => h915.elim fun v21 h916 => h916.elim fun v22 h917 => h917.elim fun v23 h918 => h918.elim fun v24 h919 => h919.elim fun v25 h920 => h920.elim fun v26 h921 => h921.elim fun v27 h922 => h922.elim fun v28 h923 => h923.elim fun v29 h924 => h924.elim fun v30 h925 => h925.elim fun v31 h926 => h926.elim fun v32 h927 => h927.elim fun v33 h928 => h928.elim fun v34 h929 => h929.elim fun v35 h930 => h930.elim fun v36 h931 => h931.elim fun v37 h932 => h932.elim fun v38 h933 => h933.elim fun v39 h934 => ?_
  clear hp h90 h91 h92 h93 h94 h95 h96 h97 h98 h99 h910 h911 h912 h913 h914 h915 h916 h917 h918 h919 h920 h921 h922 h923 h924 h925 h926 h927 h928 h929 h930 h931 h932 h933
  obtain ⟨rfl, e40, e41, e42, e43, e44, e45, e46, e47, e48, e49, e50, e51, e52, e53, e54, e55, e56, e57, e58, e59, e60, e61, e62, e63, hIX⟩ := h934
  obtain ⟨hzm, hd⟩ := hfr fM hzm hd
  have hzx := hz1
  clear hz1 hfr
  obtain ⟨fX, hfx9⟩ : ∃ g : zM, g = f1 := ⟨_, rfl⟩
  rw [← hfx9] at hIX hd hzx
  clear hfx9
  refine lv_pop hx hb dL_law_519 rfl ?_
  refine lv_aload_n hx hb dL_law_520 rfl (lv_at hl 2 rfl) ?_
  refine lv_aload_n hx hb dL_law_521 rfl (lv_at hl 0 rfl) ?_
  refine lv_iload_n hx hb dL_law_522 rfl (lv_at hl 3 rfl) ?_
  refine lv_iconst (v := 1) hx hb dL_law_523 (by decide) ?_
  refine lv_iadd hx hb dL_law_524 ?_
  refine lv_topi (fun y64 e65 => ?_)
  obtain rfl : y64 = nI (5 * j + 1) := e65.trans (nI_add (5 * j) 1)
  refine z_sld (5 * j + 1) hx hb hXs hbl hbA hS rfl (by omega) (by omega) dL_law_525 ?_
  refine lv_aload_n hx hb dL_law_526 rfl (lv_at hl 0 rfl) ?_
  refine lv_iload_n hx hb dL_law_527 rfl (lv_at hl 3 rfl) ?_
  refine lv_iconst (v := 2) hx hb dL_law_528 (by decide) ?_
  refine lv_iadd hx hb dL_law_529 ?_
  refine lv_topi (fun y66 e67 => ?_)
  obtain rfl : y66 = nI (5 * j + 2) := e67.trans (nI_add (5 * j) 2)
  refine z_sld (5 * j + 2) hx hb hXs hbl hbA hS rfl (by omega) (by omega) dL_law_530 ?_
  refine z_callVi2 (As := [.int (xs (5 * j + 1)), .int (xs (5 * j + 2))]) C hzm hS hA hl (k_X8_pair l D cy fM mo m_wev m_wnb m_wki m_wmy m_wce m_wiw m_wli m_wha m_wwt m_wfy m_wfk m_wem m_wna m_wpl m_whs m_wk1 m_wk2 m_wk3 m_u1 m_u2 m_u3 m_nl m_nn m_nf m_nc m_lk m_ks m_gv m_gu m_gk m_gm m_gc m_gw m_gl m_gh m_gt m_gy m_gq m_ge1 m_gn1 m_gp1 m_gs m_gx1 m_gx2 m_gx3 m_ln m_fz m_sq (xs (5 * j + 1)) (xs (5 * j + 2))  hIM) zyX8_pair mML_51 hIM.1 zl8 rfl rfl (Nat.le_of_ble_eq_true rfl) ⟨Nat.le_of_ble_eq_true rfl, Nat.le_of_ble_eq_true rfl⟩ ⟨show 100 + 10 * j + 2 + 0 ≤ 600000 by omega, show 3000 + 60 * j + 9 + 0 ≤ 7302249 by omega⟩ dL_law_531 (fun r f1 H locs hp hz1 hS hfr => ?_)
  clear hIM
  refine hp.elim fun w68 h90 => h90.elim fun w69 h91 => h91.elim fun w70 h92 => h92.elim fun w71 h93 => h93.elim fun w72 h94 => h94.elim fun w73 h95 => h95.elim fun w74 h96 => h96.elim fun w75 h97 => h97.elim fun w76 h98 => h98.elim fun w77 h99 => h99.elim fun w78 h910 => h910.elim fun w79 h911 => h911.elim fun w80 h912 => h912.elim fun w81 h913 => h913.elim fun w82 h914 => h914.elim fun w83 h915 => h915.elim fun w84 h916 => h916.elim fun w85 h917 => h917.elim fun w86 h918 => h918.elim fun w87 h919 => h919.elim fun w88 h920 => h920.elim fun w89 h921 => h921.elim fun w90 h922 => h922.elim fun w91 h923 => h923.elim fun w92 h924 => h924.elim fun w93 h925 => h925.elim fun w94 h926 => h926.elim fun w95 h927 => h927.elim fun w96 h928 => h928.elim fun w97 h929 => ?_
  clear hp h90 h91 h92 h93 h94 h95 h96 h97 h98 h99 h910 h911 h912 h913 h914 h915 h916 h917 h918 h919 h920 h921 h922 h923 h924 h925 h926 h927 h928
  obtain ⟨rfl, e98, e99, e100, e101, e102, e103, e104, e105, e106, e107, e108, e109, e110, e111, e112, e113, e114, e115, e116, e117, e118, e119, e120, e121, e122, hIM⟩ := h929
  obtain ⟨hzx, hd⟩ := hfr fX hzx (z_dsym hd)
  replace hd := z_dsym hd
  have hzm := hz1
  clear hz1 hfr
  obtain ⟨fM, hfm9⟩ : ∃ g : zM, g = f1 := ⟨_, rfl⟩
  rw [← hfm9] at hIM hd hzm
  clear hfm9
  refine lv_pop hx hb dL_law_534 rfl ?_
  refine lv_goto (tgt := 1358) hx hb dL_law_535 (by decide) ?_
  refine W.widen (k := 100 + 10 * (j + 1)) (n := 3000 + 60 * (j + 1)) (show 100 + 10 * j + 2 + 0 ≤ 100 + 10 * (j + 1) by omega) (show 3000 + 60 * j + 9 + 0 ≤ 3000 + 60 * (j + 1) by omega) ?_
  have hPC9 : zPC v11 v17 v18 w81 := by rw [e46, e48]; exact zPC_new hPC hl15 e49 e109
  have hFF9 : zFF v23 v27 v28 w87 := by rw [e52, e53, e54, e112]; exact hFF
  have hRE9 : zRE v29 v32 v33 v34 v35 w90 := by rw [e55, e56, e57, e58, e59, e116]; exact hRE
  have hKR8 : zKR v36 v37 w92 w93 := by rw [e60, e61, e119, e120]; exact hKR
  exact fin _ _ _ (z_LI hIX hIM hzx hzm hd ⟨(e98.trans e40.symm), (e99.trans e41.symm), (e100.trans e42.symm), (e101.trans e43.symm), (e102.trans e44.symm), (e103.trans e45.symm), (e104.trans e46.symm), (e105.trans e47.symm), (e107.trans e50.symm), (e106.trans e48.symm), (e108.trans e51.symm), (e110.trans e52.symm), (e111.trans e53.symm), (e113.trans e55.symm), (e114.trans e56.symm), (e115.trans e57.symm), (e117.trans e58.symm), (e122.trans e63.symm), (e118.trans e60.symm), (e121.trans e62.symm), hPC9, hFF9, hRE9, hKR8⟩) hS (lv_sub hl [0, 1, 2, 3] rfl)
set_option maxHeartbeats 4000000 in
set_option maxRecDepth 100000 in
theorem law_case_8 {p : Program} {l : Launch} {e : Env} {s : State} {m : MethodId} {below : List Frame} {meth : Method} {c : Code} {D : va_G} {cy : Nat → ClassId} {b L : Nat} {xs : Nat → Int32} {o mo j : Nat} (C : zC D cy p s m #[Value.ref b] meth c RL cL_law 4) (hXs : va_X b L xs s s.heap) (hbl : b < s.heap.size) (hbA : ¬ zLA s b) (hL : L ≤ 2560) (hj : 5 * j + 5 ≤ L) (fin : ∀ (H : Heap) (locs : List Loc) (ls : Array Slot), zLI D cy s o mo H → va_S (zLA s) s.heap H locs → lv_has ls 4 [(0, .ref b), (1, .ref o), (2, .ref mo), (3, .int (nI (5 * j)))] → W p l e room_1 s m #[Value.ref b] below meth c H locs (100 + 10 * (j + 1)) (3000 + 60 * (j + 1)) (lw_Z below #[Value.ref b] s) (F0 m 1358 ls [])) {H : Heap} {locs : List Loc} {ls : Array Slot} (hLI : zLI D cy s o mo H) (hS : va_S (zLA s) s.heap H locs) (hl : lv_has ls 4 [(0, .ref b), (1, .ref o), (2, .ref mo), (3, .int (nI (5 * j)))]) : W p l e room_1 s m #[Value.ref b] below meth c H locs (100 + 10 * j) (3000 + 60 * j) (lw_Z below #[Value.ref b] s) (F0 m 538 ls []) := by
  have hx := C.1
  have hb := C.2.1
  have hA : ∀ q, s.heap.size ≤ q → zLA s q := fun q h => h
  refine Exists.elim hLI fun fX h90 => h90.elim fun fM h91 => h91.elim fun fa h92 => h92.elim fun fi h93 => h93.elim fun nu h94 => h94.elim fun fm h95 => h95.elim fun co h96 => h96.elim fun en h97 => h97.elim fun ke h98 => h98.elim fun ev h99 => h99.elim fun al h910 => h910.elim fun ra h911 => h911.elim fun kn h912 => h912.elim fun vq h913 => h913.elim fun ge h914 => h914.elim fun ea h915 => h915.elim fun ma h916 => h916.elim fun u1 h917 => h917.elim fun u2 h918 => h918.elim fun u3 h919 => h919.elim fun gv h920 => h920.elim fun nl h921 => h921.elim fun gu h922 => h922.elim fun nn h923 => h923.elim fun ga h924 => h924.elim fun gr h925 => h925.elim fun fg h926 => h926.elim fun pt h927 => h927.elim fun kd h928 => h928.elim fun ln h929 => h929.elim fun pp h930 => h930.elim fun wg h931 => h931.elim fun wd h932 => h932.elim fun hs h933 => h933.elim fun bf h934 => h934.elim fun nf h935 => h935.elim fun gf h936 => h936.elim fun fq h937 => h937.elim fun fk h938 => h938.elim fun fz h939 => h939.elim fun fc h940 => h940.elim fun nc h941 => h941.elim fun gc h942 => h942.elim fun cn h943 => h943.elim fun ce h944 => h944.elim fun cm h945 => h945.elim fun sq h946 => h946.elim fun mb h947 => h947.elim fun ks h948 => h948.elim fun kk h949 => h949.elim fun kv h950 => h950.elim fun lk h951 => h951.elim fun m_wev h952 => h952.elim fun m_wnb h953 => h953.elim fun m_wki h954 => h954.elim fun m_wmy h955 => h955.elim fun m_wce h956 => h956.elim fun m_wiw h957 => h957.elim fun m_wli h958 => h958.elim fun m_wha h959 => h959.elim fun m_wwt h960 => h960.elim fun m_wfy h961 => h961.elim fun m_wfk h962 => h962.elim fun m_wem h963 => h963.elim fun m_wna h964 => h964.elim fun m_wpl h965 => h965.elim fun m_whs h966 => h966.elim fun m_wk1 h967 => h967.elim fun m_wk2 h968 => h968.elim fun m_wk3 h969 => h969.elim fun m_u1 h970 => h970.elim fun m_u2 h971 => h971.elim fun m_u3 h972 => h972.elim fun m_nl h973 => h973.elim fun m_nn h974 => h974.elim fun m_nf h975 => h975.elim fun m_nc h976 => h976.elim fun m_lk h977 => h977.elim fun m_ks h978 => h978.elim fun m_gv h979 => h979.elim fun m_gu h980 => h980.elim fun m_gk h981 => h981.elim fun m_gm h982 => h982.elim fun m_gc h983 => h983.elim fun m_gw h984 => h984.elim fun m_gl h985 => h985.elim fun m_gh h986 => h986.elim fun m_gt h987 => h987.elim fun m_gy h988 => h988.elim fun m_gq h989 => h989.elim fun m_ge1 h990 => h990.elim fun m_gn1 h991 => h991.elim fun m_gp1 h992 => h992.elim fun m_gs h993 => h993.elim fun m_gx1 h994 => h994.elim fun m_gx2 h995 => h995.elim fun m_gx3 h996 => h996.elim fun m_ln h997 => h997.elim fun m_fz h998 => h998.elim fun m_sq h999 => ?_
  clear hLI h90 h91 h92 h93 h94 h95 h96 h97 h98 h99 h910 h911 h912 h913 h914 h915 h916 h917 h918 h919 h920 h921 h922 h923 h924 h925 h926 h927 h928 h929 h930 h931 h932 h933 h934 h935 h936 h937 h938 h939 h940 h941 h942 h943 h944 h945 h946 h947 h948 h949 h950 h951 h952 h953 h954 h955 h956 h957 h958 h959 h960 h961 h962 h963 h964 h965 h966 h967 h968 h969 h970 h971 h972 h973 h974 h975 h976 h977 h978 h979 h980 h981 h982 h983 h984 h985 h986 h987 h988 h989 h990 h991 h992 h993 h994 h995 h996 h997 h998
  obtain ⟨hIX, hIM, hzx, hzm, hd, rfl, rfl, rfl, rfl, rfl, rfl, rfl, rfl, rfl, rfl, rfl, rfl, rfl, rfl, rfl, rfl, rfl, rfl, rfl, rfl, hPC, hFF, hRE, hKR⟩ := h999
  have hl15 := zIM_ln hIM
  have hfz4 := zIM_fz hIM
  have hn60 := zIM_n60 hIM
  have hf60 := zIM_f60 hIM
  have hc60 := zIM_c60 hIM
  have hs40 := zIM_s40 hIM
  refine lv_aload_n hx hb dL_law_538 rfl (lv_at hl 1 rfl) ?_
  refine lv_aload_n hx hb dL_law_539 rfl (lv_at hl 0 rfl) ?_
  refine lv_iload_n hx hb dL_law_540 rfl (lv_at hl 3 rfl) ?_
  refine lv_iconst (v := 1) hx hb dL_law_541 (by decide) ?_
  refine lv_iadd hx hb dL_law_542 ?_
  refine lv_topi (fun y1 e2 => ?_)
  obtain rfl : y1 = nI (5 * j + 1) := e2.trans (nI_add (5 * j) 1)
  refine z_sld (5 * j + 1) hx hb hXs hbl hbA hS rfl (by omega) (by omega) dL_law_543 ?_
  refine lv_aload_n hx hb dL_law_544 rfl (lv_at hl 0 rfl) ?_
  refine lv_iload_n hx hb dL_law_545 rfl (lv_at hl 3 rfl) ?_
  refine lv_iconst (v := 2) hx hb dL_law_546 (by decide) ?_
  refine lv_iadd hx hb dL_law_547 ?_
  refine lv_topi (fun y3 e4 => ?_)
  obtain rfl : y3 = nI (5 * j + 2) := e4.trans (nI_add (5 * j) 2)
  refine z_sld (5 * j + 2) hx hb hXs hbl hbA hS rfl (by omega) (by omega) dL_law_548 ?_
  refine z_callVi2 (As := [.int (xs (5 * j + 1)), .int (xs (5 * j + 2))]) C hzx hS hA hl (k_X7_row l D cy fX o fa fi nu fm co en ke ev al ra kn vq ge ea ma m_u1 m_u2 m_u3 m_gv m_nl m_gu m_nn ga gr fg pt m_gk m_ln pp wg m_gw m_gh bf m_nf gf fq fk m_fz fc m_nc gc cn m_ge1 m_gn1 m_sq mb m_ks kk m_gx3 m_lk (xs (5 * j + 1)) (xs (5 * j + 2))  hIX) zyX7_row mML_52 hIX.1 zl7 rfl rfl (Nat.le_of_ble_eq_true rfl) ⟨Nat.le_of_ble_eq_true rfl, Nat.le_of_ble_eq_true rfl⟩ ⟨show 100 + 10 * j + 2 ≤ 600000 by omega, show 3000 + 60 * j + 22 ≤ 7302249 by omega⟩ dL_law_549 (fun r f1 H locs hp hz1 hS hfr => ?_)
  clear hIX
  refine hp.elim fun v5 h90 => h90.elim fun v6 h91 => h91.elim fun v7 h92 => h92.elim fun v8 h93 => h93.elim fun v9 h94 => h94.elim fun v10 h95 => h95.elim fun v11 h96 => h96.elim fun v12 h97 => h97.elim fun v13 h98 => h98.elim fun v14 h99 => h99.elim fun v15 h910 => h910.elim fun v16 h911 => h911.elim fun v17 h912 => h912.elim fun v18 h913 => h913.elim fun v19 h914 => h914.elim fun v20 h915 => h915.elim fun v21 h916 => h916.elim fun v22 h917 => h917.elim fun v23 h918 => h918.elim fun v24 h919 => h919.elim fun v25 h920 => h920.elim fun v26 h921 => h921.elim fun v27 h922 => h922.elim fun v28 h923 => h923.elim fun v29 h924 => h924.elim fun v30 h925 => h925.elim fun v31 h926 => h926.elim fun v32 h927 => h927.elim fun v33 h928 => h928.elim fun v34 h929 => h929.elim fun v35 h930 => h930.elim fun v36 h931 => h931.elim fun v37 h932 => h932.elim fun v38 h933 => h933.elim fun v39 h934 => ?_
  clear hp h90 h91 h92 h93 h94 h95 h96 h97 h98 h99 h910 h911 h912 h913 h914 h915 h916 h917 h918 h919 h920 h921 h922 h923 h924 h925 h926 h927 h928 h929 h930 h931 h932 h933
  obtain ⟨rfl, e40, e41, e42, e43, e44, e45, e46, e47, e48, e49, e50, e51, e52, e53, e54, e55, e56, e57, e58, e59, e60, e61, e62, e63, hIX⟩ := h934
  obtain ⟨hzm, hd⟩ := hfr fM hzm hd
  have hzx := hz1
  clear hz1 hfr
  obtain ⟨fX, hfx9⟩ : ∃ g : zM, g = f1 := ⟨_, rfl⟩
  rw [← hfx9] at hIX hd hzx
  clear hfx9
  refine lv_pop hx hb dL_law_552 rfl ?_
  refine lv_aload_n hx hb dL_law_553 rfl (lv_at hl 2 rfl) ?_
  refine lv_aload_n hx hb dL_law_554 rfl (lv_at hl 0 rfl) ?_
  refine lv_iload_n hx hb dL_law_555 rfl (lv_at hl 3 rfl) ?_
  refine lv_iconst (v := 1) hx hb dL_law_556 (by decide) ?_
  refine lv_iadd hx hb dL_law_557 ?_
  refine lv_topi (fun y64 e65 => ?_)
  obtain rfl : y64 = nI (5 * j + 1) := e65.trans (nI_add (5 * j) 1)
  refine z_sld (5 * j + 1) hx hb hXs hbl hbA hS rfl (by omega) (by omega) dL_law_558 ?_
  refine lv_aload_n hx hb dL_law_559 rfl (lv_at hl 0 rfl) ?_
  refine lv_iload_n hx hb dL_law_560 rfl (lv_at hl 3 rfl) ?_
  refine lv_iconst (v := 2) hx hb dL_law_561 (by decide) ?_
  refine lv_iadd hx hb dL_law_562 ?_
  refine lv_topi (fun y66 e67 => ?_)
  obtain rfl : y66 = nI (5 * j + 2) := e67.trans (nI_add (5 * j) 2)
  refine z_sld (5 * j + 2) hx hb hXs hbl hbA hS rfl (by omega) (by omega) dL_law_563 ?_
  refine z_callVi2 (As := [.int (xs (5 * j + 1)), .int (xs (5 * j + 2))]) C hzm hS hA hl (k_X8_row l D cy fM mo m_wev m_wnb m_wki m_wmy m_wce m_wiw m_wli m_wha m_wwt m_wfy m_wfk m_wem m_wna m_wpl m_whs m_wk1 m_wk2 m_wk3 m_u1 m_u2 m_u3 m_nl m_nn m_nf m_nc m_lk m_ks m_gv m_gu m_gk m_gm m_gc m_gw m_gl m_gh m_gt m_gy m_gq m_ge1 m_gn1 m_gp1 m_gs m_gx1 m_gx2 m_gx3 m_ln m_fz m_sq (xs (5 * j + 1)) (xs (5 * j + 2))  hIM) zyX8_row mML_55 hIM.1 zl8 rfl rfl (Nat.le_of_ble_eq_true rfl) ⟨Nat.le_of_ble_eq_true rfl, Nat.le_of_ble_eq_true rfl⟩ ⟨show 100 + 10 * j + 2 + 0 ≤ 600000 by omega, show 3000 + 60 * j + 22 + 0 ≤ 7302249 by omega⟩ dL_law_564 (fun r f1 H locs hp hz1 hS hfr => ?_)
  clear hIM
  refine hp.elim fun w68 h90 => h90.elim fun w69 h91 => h91.elim fun w70 h92 => h92.elim fun w71 h93 => h93.elim fun w72 h94 => h94.elim fun w73 h95 => h95.elim fun w74 h96 => h96.elim fun w75 h97 => h97.elim fun w76 h98 => h98.elim fun w77 h99 => h99.elim fun w78 h910 => h910.elim fun w79 h911 => h911.elim fun w80 h912 => h912.elim fun w81 h913 => h913.elim fun w82 h914 => h914.elim fun w83 h915 => h915.elim fun w84 h916 => h916.elim fun w85 h917 => h917.elim fun w86 h918 => h918.elim fun w87 h919 => h919.elim fun w88 h920 => h920.elim fun w89 h921 => h921.elim fun w90 h922 => h922.elim fun w91 h923 => h923.elim fun w92 h924 => h924.elim fun w93 h925 => h925.elim fun w94 h926 => h926.elim fun w95 h927 => h927.elim fun w96 h928 => h928.elim fun w97 h929 => ?_
  clear hp h90 h91 h92 h93 h94 h95 h96 h97 h98 h99 h910 h911 h912 h913 h914 h915 h916 h917 h918 h919 h920 h921 h922 h923 h924 h925 h926 h927 h928
  obtain ⟨rfl, e98, e99, e100, e101, e102, e103, e104, e105, e106, e107, e108, e109, e110, e111, e112, e113, e114, e115, e116, e117, e118, e119, e120, e121, e122, hIM⟩ := h929
  obtain ⟨hzx, hd⟩ := hfr fX hzx (z_dsym hd)
  replace hd := z_dsym hd
  have hzm := hz1
  clear hz1 hfr
  obtain ⟨fM, hfm9⟩ : ∃ g : zM, g = f1 := ⟨_, rfl⟩
  rw [← hfm9] at hIM hd hzm
  clear hfm9
  refine lv_pop hx hb dL_law_567 rfl ?_
  refine lv_goto (tgt := 1358) hx hb dL_law_568 (by decide) ?_
  refine W.widen (k := 100 + 10 * (j + 1)) (n := 3000 + 60 * (j + 1)) (show 100 + 10 * j + 2 + 0 ≤ 100 + 10 * (j + 1) by omega) (show 3000 + 60 * j + 22 + 0 ≤ 3000 + 60 * (j + 1) by omega) ?_
  have hPC9 : zPC v11 v17 v18 w81 := by rw [e46, e48]; exact zPC_new hPC hl15 e49 e109
  have hFF9 : zFF v23 v27 v28 w87 := by rw [e52, e53, e54, e112]; exact hFF
  have hRE9 : zRE v29 v32 v33 v34 v35 w90 := by rw [e55, e56, e57, e58, e59, e116]; exact hRE
  have hKR8 : zKR v36 v37 w92 w93 := by rw [e60, e61, e119, e120]; exact hKR
  exact fin _ _ _ (z_LI hIX hIM hzx hzm hd ⟨(e98.trans e40.symm), (e99.trans e41.symm), (e100.trans e42.symm), (e101.trans e43.symm), (e102.trans e44.symm), (e103.trans e45.symm), (e104.trans e46.symm), (e105.trans e47.symm), (e107.trans e50.symm), (e106.trans e48.symm), (e108.trans e51.symm), (e110.trans e52.symm), (e111.trans e53.symm), (e113.trans e55.symm), (e114.trans e56.symm), (e115.trans e57.symm), (e117.trans e58.symm), (e122.trans e63.symm), (e118.trans e60.symm), (e121.trans e62.symm), hPC9, hFF9, hRE9, hKR8⟩) hS (lv_sub hl [0, 1, 2, 3] rfl)
set_option maxHeartbeats 4000000 in
set_option maxRecDepth 100000 in
theorem law_case_9 {p : Program} {l : Launch} {e : Env} {s : State} {m : MethodId} {below : List Frame} {meth : Method} {c : Code} {D : va_G} {cy : Nat → ClassId} {b L : Nat} {xs : Nat → Int32} {o mo j : Nat} (C : zC D cy p s m #[Value.ref b] meth c RL cL_law 4) (hXs : va_X b L xs s s.heap) (hbl : b < s.heap.size) (hbA : ¬ zLA s b) (hL : L ≤ 2560) (hj : 5 * j + 5 ≤ L) (fin : ∀ (H : Heap) (locs : List Loc) (ls : Array Slot), zLI D cy s o mo H → va_S (zLA s) s.heap H locs → lv_has ls 4 [(0, .ref b), (1, .ref o), (2, .ref mo), (3, .int (nI (5 * j)))] → W p l e room_1 s m #[Value.ref b] below meth c H locs (100 + 10 * (j + 1)) (3000 + 60 * (j + 1)) (lw_Z below #[Value.ref b] s) (F0 m 1358 ls [])) {H : Heap} {locs : List Loc} {ls : Array Slot} (hLI : zLI D cy s o mo H) (hS : va_S (zLA s) s.heap H locs) (hl : lv_has ls 4 [(0, .ref b), (1, .ref o), (2, .ref mo), (3, .int (nI (5 * j)))]) : W p l e room_1 s m #[Value.ref b] below meth c H locs (100 + 10 * j) (3000 + 60 * j) (lw_Z below #[Value.ref b] s) (F0 m 571 ls []) := by
  have hx := C.1
  have hb := C.2.1
  have hA : ∀ q, s.heap.size ≤ q → zLA s q := fun q h => h
  refine Exists.elim hLI fun fX h90 => h90.elim fun fM h91 => h91.elim fun fa h92 => h92.elim fun fi h93 => h93.elim fun nu h94 => h94.elim fun fm h95 => h95.elim fun co h96 => h96.elim fun en h97 => h97.elim fun ke h98 => h98.elim fun ev h99 => h99.elim fun al h910 => h910.elim fun ra h911 => h911.elim fun kn h912 => h912.elim fun vq h913 => h913.elim fun ge h914 => h914.elim fun ea h915 => h915.elim fun ma h916 => h916.elim fun u1 h917 => h917.elim fun u2 h918 => h918.elim fun u3 h919 => h919.elim fun gv h920 => h920.elim fun nl h921 => h921.elim fun gu h922 => h922.elim fun nn h923 => h923.elim fun ga h924 => h924.elim fun gr h925 => h925.elim fun fg h926 => h926.elim fun pt h927 => h927.elim fun kd h928 => h928.elim fun ln h929 => h929.elim fun pp h930 => h930.elim fun wg h931 => h931.elim fun wd h932 => h932.elim fun hs h933 => h933.elim fun bf h934 => h934.elim fun nf h935 => h935.elim fun gf h936 => h936.elim fun fq h937 => h937.elim fun fk h938 => h938.elim fun fz h939 => h939.elim fun fc h940 => h940.elim fun nc h941 => h941.elim fun gc h942 => h942.elim fun cn h943 => h943.elim fun ce h944 => h944.elim fun cm h945 => h945.elim fun sq h946 => h946.elim fun mb h947 => h947.elim fun ks h948 => h948.elim fun kk h949 => h949.elim fun kv h950 => h950.elim fun lk h951 => h951.elim fun m_wev h952 => h952.elim fun m_wnb h953 => h953.elim fun m_wki h954 => h954.elim fun m_wmy h955 => h955.elim fun m_wce h956 => h956.elim fun m_wiw h957 => h957.elim fun m_wli h958 => h958.elim fun m_wha h959 => h959.elim fun m_wwt h960 => h960.elim fun m_wfy h961 => h961.elim fun m_wfk h962 => h962.elim fun m_wem h963 => h963.elim fun m_wna h964 => h964.elim fun m_wpl h965 => h965.elim fun m_whs h966 => h966.elim fun m_wk1 h967 => h967.elim fun m_wk2 h968 => h968.elim fun m_wk3 h969 => h969.elim fun m_u1 h970 => h970.elim fun m_u2 h971 => h971.elim fun m_u3 h972 => h972.elim fun m_nl h973 => h973.elim fun m_nn h974 => h974.elim fun m_nf h975 => h975.elim fun m_nc h976 => h976.elim fun m_lk h977 => h977.elim fun m_ks h978 => h978.elim fun m_gv h979 => h979.elim fun m_gu h980 => h980.elim fun m_gk h981 => h981.elim fun m_gm h982 => h982.elim fun m_gc h983 => h983.elim fun m_gw h984 => h984.elim fun m_gl h985 => h985.elim fun m_gh h986 => h986.elim fun m_gt h987 => h987.elim fun m_gy h988 => h988.elim fun m_gq h989 => h989.elim fun m_ge1 h990 => h990.elim fun m_gn1 h991 => h991.elim fun m_gp1 h992 => h992.elim fun m_gs h993 => h993.elim fun m_gx1 h994 => h994.elim fun m_gx2 h995 => h995.elim fun m_gx3 h996 => h996.elim fun m_ln h997 => h997.elim fun m_fz h998 => h998.elim fun m_sq h999 => ?_
  clear hLI h90 h91 h92 h93 h94 h95 h96 h97 h98 h99 h910 h911 h912 h913 h914 h915 h916 h917 h918 h919 h920 h921 h922 h923 h924 h925 h926 h927 h928 h929 h930 h931 h932 h933 h934 h935 h936 h937 h938 h939 h940 h941 h942 h943 h944 h945 h946 h947 h948 h949 h950 h951 h952 h953 h954 h955 h956 h957 h958 h959 h960 h961 h962 h963 h964 h965 h966 h967 h968 h969 h970 h971 h972 h973 h974 h975 h976 h977 h978 h979 h980 h981 h982 h983 h984 h985 h986 h987 h988 h989 h990 h991 h992 h993 h994 h995 h996 h997 h998
  obtain ⟨hIX, hIM, hzx, hzm, hd, rfl, rfl, rfl, rfl, rfl, rfl, rfl, rfl, rfl, rfl, rfl, rfl, rfl, rfl, rfl, rfl, rfl, rfl, rfl, rfl, hPC, hFF, hRE, hKR⟩ := h999
  have hl15 := zIM_ln hIM
  have hfz4 := zIM_fz hIM
  have hn60 := zIM_n60 hIM
  have hf60 := zIM_f60 hIM
  have hc60 := zIM_c60 hIM
  have hs40 := zIM_s40 hIM
  refine lv_aload_n hx hb dL_law_571 rfl (lv_at hl 1 rfl) ?_
  refine lv_aload_n hx hb dL_law_572 rfl (lv_at hl 0 rfl) ?_
  refine lv_iload_n hx hb dL_law_573 rfl (lv_at hl 3 rfl) ?_
  refine lv_iconst (v := 1) hx hb dL_law_574 (by decide) ?_
  refine lv_iadd hx hb dL_law_575 ?_
  refine lv_topi (fun y1 e2 => ?_)
  obtain rfl : y1 = nI (5 * j + 1) := e2.trans (nI_add (5 * j) 1)
  refine z_sld (5 * j + 1) hx hb hXs hbl hbA hS rfl (by omega) (by omega) dL_law_576 ?_
  refine lv_if_eq (tgt := 584) hx hb dL_law_577 (by decide) (fun c3 => ?_) (fun c3 => ?_)
  · refine lv_iconst (v := 0) hx hb dL_law_584 (by decide) ?_
    refine lv_aload_n hx hb dL_law_585 rfl (lv_at hl 0 rfl) ?_
    refine lv_iload_n hx hb dL_law_586 rfl (lv_at hl 3 rfl) ?_
    refine lv_iconst (v := 2) hx hb dL_law_587 (by decide) ?_
    refine lv_iadd hx hb dL_law_588 ?_
    refine lv_topi (fun y4 e5 => ?_)
    obtain rfl : y4 = nI (5 * j + 2) := e5.trans (nI_add (5 * j) 2)
    refine z_sld (5 * j + 2) hx hb hXs hbl hbA hS rfl (by omega) (by omega) dL_law_589 ?_
    refine z_callVi2 (As := [.int 0, .int (xs (5 * j + 2))]) C hzx hS hA hl (k_X7_shelf l D cy fX o fa fi nu fm co en ke ev al ra kn vq ge ea ma m_u1 m_u2 m_u3 m_gv m_nl m_gu m_nn ga gr fg pt m_gk m_ln pp wg m_gw m_gh bf m_nf gf fq fk m_fz fc m_nc gc cn m_ge1 m_gn1 m_sq mb m_ks kk m_gx3 m_lk (0 : Int32) (xs (5 * j + 2)) (Or.inl rfl) hIX) zyX7_shelf mML_56 hIX.1 zl7 rfl rfl (Nat.le_of_ble_eq_true rfl) ⟨Nat.le_of_ble_eq_true rfl, Nat.le_of_ble_eq_true rfl⟩ ⟨show 100 + 10 * j + 2 ≤ 600000 by omega, show 3000 + 60 * j + 20 ≤ 7302249 by omega⟩ dL_law_590 (fun r f1 H locs hp hz1 hS hfr => ?_)
    clear hIX
    refine hp.elim fun v6 h90 => h90.elim fun v7 h91 => h91.elim fun v8 h92 => h92.elim fun v9 h93 => h93.elim fun v10 h94 => h94.elim fun v11 h95 => h95.elim fun v12 h96 => h96.elim fun v13 h97 => h97.elim fun v14 h98 => h98.elim fun v15 h99 => h99.elim fun v16 h910 => h910.elim fun v17 h911 => h911.elim fun v18 h912 => h912.elim fun v19 h913 => h913.elim fun v20 h914 => h914.elim fun v21 h915 => h915.elim fun v22 h916 => h916.elim fun v23 h917 => h917.elim fun v24 h918 => h918.elim fun v25 h919 => h919.elim fun v26 h920 => h920.elim fun v27 h921 => h921.elim fun v28 h922 => h922.elim fun v29 h923 => h923.elim fun v30 h924 => h924.elim fun v31 h925 => h925.elim fun v32 h926 => h926.elim fun v33 h927 => h927.elim fun v34 h928 => h928.elim fun v35 h929 => h929.elim fun v36 h930 => h930.elim fun v37 h931 => h931.elim fun v38 h932 => h932.elim fun v39 h933 => h933.elim fun v40 h934 => ?_
    clear hp h90 h91 h92 h93 h94 h95 h96 h97 h98 h99 h910 h911 h912 h913 h914 h915 h916 h917 h918 h919 h920 h921 h922 h923 h924 h925 h926 h927 h928 h929 h930 h931 h932 h933
    obtain ⟨rfl, e41, e42, e43, e44, e45, e46, e47, e48, e49, e50, e51, e52, e53, e54, e55, e56, e57, e58, e59, e60, e61, e62, e63, e64, hIX⟩ := h934
    obtain ⟨hzm, hd⟩ := hfr fM hzm hd
    have hzx := hz1
    clear hz1 hfr
    obtain ⟨fX, hfx9⟩ : ∃ g : zM, g = f1 := ⟨_, rfl⟩
    rw [← hfx9] at hIX hd hzx
    clear hfx9
    refine lv_pop hx hb dL_law_593 rfl ?_
    refine lv_aload_n hx hb dL_law_594 rfl (lv_at hl 2 rfl) ?_
    refine lv_aload_n hx hb dL_law_595 rfl (lv_at hl 0 rfl) ?_
    refine lv_iload_n hx hb dL_law_596 rfl (lv_at hl 3 rfl) ?_
    refine lv_iconst (v := 1) hx hb dL_law_597 (by decide) ?_
    refine lv_iadd hx hb dL_law_598 ?_
    refine lv_topi (fun y65 e66 => ?_)
    obtain rfl : y65 = nI (5 * j + 1) := e66.trans (nI_add (5 * j) 1)
    refine z_sld (5 * j + 1) hx hb hXs hbl hbA hS rfl (by omega) (by omega) dL_law_599 ?_
    refine lv_if_eq (tgt := 607) hx hb dL_law_600 (by decide) (fun c68 => ?_) (fun c68 => ?_)
    rotate_left
    · exact absurd c3 c68
    refine lv_iconst (v := 0) hx hb dL_law_607 (by decide) ?_
    refine lv_aload_n hx hb dL_law_608 rfl (lv_at hl 0 rfl) ?_
    refine lv_iload_n hx hb dL_law_609 rfl (lv_at hl 3 rfl) ?_
    refine lv_iconst (v := 2) hx hb dL_law_610 (by decide) ?_
    refine lv_iadd hx hb dL_law_611 ?_
    refine lv_topi (fun y69 e70 => ?_)
    obtain rfl : y69 = nI (5 * j + 2) := e70.trans (nI_add (5 * j) 2)
    refine z_sld (5 * j + 2) hx hb hXs hbl hbA hS rfl (by omega) (by omega) dL_law_612 ?_
    refine z_callVi2 (As := [.int 0, .int (xs (5 * j + 2))]) C hzm hS hA hl (k_X8_shelf l D cy fM mo m_wev m_wnb m_wki m_wmy m_wce m_wiw m_wli m_wha m_wwt m_wfy m_wfk m_wem m_wna m_wpl m_whs m_wk1 m_wk2 m_wk3 m_u1 m_u2 m_u3 m_nl m_nn m_nf m_nc m_lk m_ks m_gv m_gu m_gk m_gm m_gc m_gw m_gl m_gh m_gt m_gy m_gq m_ge1 m_gn1 m_gp1 m_gs m_gx1 m_gx2 m_gx3 m_ln m_fz m_sq (0 : Int32) (xs (5 * j + 2)) (Or.inl rfl) hIM) zyX8_shelf mML_60 hIM.1 zl8 rfl rfl (Nat.le_of_ble_eq_true rfl) ⟨Nat.le_of_ble_eq_true rfl, Nat.le_of_ble_eq_true rfl⟩ ⟨show 100 + 10 * j + 2 + 0 ≤ 600000 by omega, show 3000 + 60 * j + 20 + 0 ≤ 7302249 by omega⟩ dL_law_613 (fun r f1 H locs hp hz1 hS hfr => ?_)
    clear hIM
    refine hp.elim fun w71 h90 => h90.elim fun w72 h91 => h91.elim fun w73 h92 => h92.elim fun w74 h93 => h93.elim fun w75 h94 => h94.elim fun w76 h95 => h95.elim fun w77 h96 => h96.elim fun w78 h97 => h97.elim fun w79 h98 => h98.elim fun w80 h99 => h99.elim fun w81 h910 => h910.elim fun w82 h911 => h911.elim fun w83 h912 => h912.elim fun w84 h913 => h913.elim fun w85 h914 => h914.elim fun w86 h915 => h915.elim fun w87 h916 => h916.elim fun w88 h917 => h917.elim fun w89 h918 => h918.elim fun w90 h919 => h919.elim fun w91 h920 => h920.elim fun w92 h921 => h921.elim fun w93 h922 => h922.elim fun w94 h923 => h923.elim fun w95 h924 => h924.elim fun w96 h925 => h925.elim fun w97 h926 => h926.elim fun w98 h927 => h927.elim fun w99 h928 => h928.elim fun w100 h929 => ?_
    clear hp h90 h91 h92 h93 h94 h95 h96 h97 h98 h99 h910 h911 h912 h913 h914 h915 h916 h917 h918 h919 h920 h921 h922 h923 h924 h925 h926 h927 h928
    obtain ⟨rfl, e101, e102, e103, e104, e105, e106, e107, e108, e109, e110, e111, e112, e113, e114, e115, e116, e117, e118, e119, e120, e121, e122, e123, e124, e125, hIM⟩ := h929
    obtain ⟨hzx, hd⟩ := hfr fX hzx (z_dsym hd)
    replace hd := z_dsym hd
    have hzm := hz1
    clear hz1 hfr
    obtain ⟨fM, hfm9⟩ : ∃ g : zM, g = f1 := ⟨_, rfl⟩
    rw [← hfm9] at hIM hd hzm
    clear hfm9
    refine lv_pop hx hb dL_law_616 rfl ?_
    refine lv_goto (tgt := 1358) hx hb dL_law_617 (by decide) ?_
    refine W.widen (k := 100 + 10 * (j + 1)) (n := 3000 + 60 * (j + 1)) (show 100 + 10 * j + 2 + 0 ≤ 100 + 10 * (j + 1) by omega) (show 3000 + 60 * j + 20 + 0 ≤ 3000 + 60 * (j + 1) by omega) ?_
    have hPC9 : zPC v12 v18 v19 w84 := by rw [e47, e49]; exact zPC_new hPC hl15 e50 e112
    have hFF9 : zFF v24 v28 v29 w90 := by rw [e53, e54, e55, e115]; exact hFF
    have hRE9 : zRE v30 v33 v34 v35 v36 w93 := by rw [e56, e57, e58, e59, e60, e119]; exact hRE
    have hKR8 : zKR v37 v38 w95 w96 := by rw [e61, e62, e122, e123]; exact hKR
    exact fin _ _ _ (z_LI hIX hIM hzx hzm hd ⟨(e101.trans e41.symm), (e102.trans e42.symm), (e103.trans e43.symm), (e104.trans e44.symm), (e105.trans e45.symm), (e106.trans e46.symm), (e107.trans e47.symm), (e108.trans e48.symm), (e110.trans e51.symm), (e109.trans e49.symm), (e111.trans e52.symm), (e113.trans e53.symm), (e114.trans e54.symm), (e116.trans e56.symm), (e117.trans e57.symm), (e118.trans e58.symm), (e120.trans e59.symm), (e125.trans e64.symm), (e121.trans e61.symm), (e124.trans e63.symm), hPC9, hFF9, hRE9, hKR8⟩) hS (lv_sub hl [0, 1, 2, 3] rfl)
  · refine lv_iconst (v := 1) hx hb dL_law_580 (by decide) ?_
    refine lv_goto (tgt := 585) hx hb dL_law_581 (by decide) ?_
    refine lv_aload_n hx hb dL_law_585 rfl (lv_at hl 0 rfl) ?_
    refine lv_iload_n hx hb dL_law_586 rfl (lv_at hl 3 rfl) ?_
    refine lv_iconst (v := 2) hx hb dL_law_587 (by decide) ?_
    refine lv_iadd hx hb dL_law_588 ?_
    refine lv_topi (fun y126 e127 => ?_)
    obtain rfl : y126 = nI (5 * j + 2) := e127.trans (nI_add (5 * j) 2)
    refine z_sld (5 * j + 2) hx hb hXs hbl hbA hS rfl (by omega) (by omega) dL_law_589 ?_
    refine z_callVi2 (As := [.int 1, .int (xs (5 * j + 2))]) C hzx hS hA hl (k_X7_shelf l D cy fX o fa fi nu fm co en ke ev al ra kn vq ge ea ma m_u1 m_u2 m_u3 m_gv m_nl m_gu m_nn ga gr fg pt m_gk m_ln pp wg m_gw m_gh bf m_nf gf fq fk m_fz fc m_nc gc cn m_ge1 m_gn1 m_sq mb m_ks kk m_gx3 m_lk (1 : Int32) (xs (5 * j + 2)) (Or.inr rfl) hIX) zyX7_shelf mML_56 hIX.1 zl7 rfl rfl (Nat.le_of_ble_eq_true rfl) ⟨Nat.le_of_ble_eq_true rfl, Nat.le_of_ble_eq_true rfl⟩ ⟨show 100 + 10 * j + 2 ≤ 600000 by omega, show 3000 + 60 * j + 20 ≤ 7302249 by omega⟩ dL_law_590 (fun r f1 H locs hp hz1 hS hfr => ?_)
    clear hIX
    refine hp.elim fun v128 h90 => h90.elim fun v129 h91 => h91.elim fun v130 h92 => h92.elim fun v131 h93 => h93.elim fun v132 h94 => h94.elim fun v133 h95 => h95.elim fun v134 h96 => h96.elim fun v135 h97 => h97.elim fun v136 h98 => h98.elim fun v137 h99 => h99.elim fun v138 h910 => h910.elim fun v139 h911 => h911.elim fun v140 h912 => h912.elim fun v141 h913 => h913.elim fun v142 h914 => h914.elim fun v143 h915 => h915.elim fun v144 h916 => h916.elim fun v145 h917 => h917.elim fun v146 h918 => h918.elim fun v147 h919 => h919.elim fun v148 h920 => h920.elim fun v149 h921 => h921.elim fun v150 h922 => h922.elim fun v151 h923 => h923.elim fun v152 h924 => h924.elim fun v153 h925 => h925.elim fun v154 h926 => h926.elim fun v155 h927 => h927.elim fun v156 h928 => h928.elim fun v157 h929 => h929.elim fun v158 h930 => h930.elim fun v159 h931 => h931.elim fun v160 h932 => h932.elim fun v161 h933 => h933.elim fun v162 h934 => ?_
    clear hp h90 h91 h92 h93 h94 h95 h96 h97 h98 h99 h910 h911 h912 h913 h914 h915 h916 h917 h918 h919 h920 h921 h922 h923 h924 h925 h926 h927 h928 h929 h930 h931 h932 h933
    obtain ⟨rfl, e163, e164, e165, e166, e167, e168, e169, e170, e171, e172, e173, e174, e175, e176, e177, e178, e179, e180, e181, e182, e183, e184, e185, e186, hIX⟩ := h934
    obtain ⟨hzm, hd⟩ := hfr fM hzm hd
    have hzx := hz1
    clear hz1 hfr
    obtain ⟨fX, hfx9⟩ : ∃ g : zM, g = f1 := ⟨_, rfl⟩
    rw [← hfx9] at hIX hd hzx
    clear hfx9
    refine lv_pop hx hb dL_law_593 rfl ?_
    refine lv_aload_n hx hb dL_law_594 rfl (lv_at hl 2 rfl) ?_
    refine lv_aload_n hx hb dL_law_595 rfl (lv_at hl 0 rfl) ?_
    refine lv_iload_n hx hb dL_law_596 rfl (lv_at hl 3 rfl) ?_
    refine lv_iconst (v := 1) hx hb dL_law_597 (by decide) ?_
    refine lv_iadd hx hb dL_law_598 ?_
    refine lv_topi (fun y187 e188 => ?_)
    obtain rfl : y187 = nI (5 * j + 1) := e188.trans (nI_add (5 * j) 1)
    refine z_sld (5 * j + 1) hx hb hXs hbl hbA hS rfl (by omega) (by omega) dL_law_599 ?_
    refine lv_if_eq (tgt := 607) hx hb dL_law_600 (by decide) (fun c190 => ?_) (fun c190 => ?_)
    · exact absurd c190 c3
    refine lv_iconst (v := 1) hx hb dL_law_603 (by decide) ?_
    refine lv_goto (tgt := 608) hx hb dL_law_604 (by decide) ?_
    refine lv_aload_n hx hb dL_law_608 rfl (lv_at hl 0 rfl) ?_
    refine lv_iload_n hx hb dL_law_609 rfl (lv_at hl 3 rfl) ?_
    refine lv_iconst (v := 2) hx hb dL_law_610 (by decide) ?_
    refine lv_iadd hx hb dL_law_611 ?_
    refine lv_topi (fun y191 e192 => ?_)
    obtain rfl : y191 = nI (5 * j + 2) := e192.trans (nI_add (5 * j) 2)
    refine z_sld (5 * j + 2) hx hb hXs hbl hbA hS rfl (by omega) (by omega) dL_law_612 ?_
    refine z_callVi2 (As := [.int 1, .int (xs (5 * j + 2))]) C hzm hS hA hl (k_X8_shelf l D cy fM mo m_wev m_wnb m_wki m_wmy m_wce m_wiw m_wli m_wha m_wwt m_wfy m_wfk m_wem m_wna m_wpl m_whs m_wk1 m_wk2 m_wk3 m_u1 m_u2 m_u3 m_nl m_nn m_nf m_nc m_lk m_ks m_gv m_gu m_gk m_gm m_gc m_gw m_gl m_gh m_gt m_gy m_gq m_ge1 m_gn1 m_gp1 m_gs m_gx1 m_gx2 m_gx3 m_ln m_fz m_sq (1 : Int32) (xs (5 * j + 2)) (Or.inr rfl) hIM) zyX8_shelf mML_60 hIM.1 zl8 rfl rfl (Nat.le_of_ble_eq_true rfl) ⟨Nat.le_of_ble_eq_true rfl, Nat.le_of_ble_eq_true rfl⟩ ⟨show 100 + 10 * j + 2 + 0 ≤ 600000 by omega, show 3000 + 60 * j + 20 + 0 ≤ 7302249 by omega⟩ dL_law_613 (fun r f1 H locs hp hz1 hS hfr => ?_)
    clear hIM
    refine hp.elim fun w193 h90 => h90.elim fun w194 h91 => h91.elim fun w195 h92 => h92.elim fun w196 h93 => h93.elim fun w197 h94 => h94.elim fun w198 h95 => h95.elim fun w199 h96 => h96.elim fun w200 h97 => h97.elim fun w201 h98 => h98.elim fun w202 h99 => h99.elim fun w203 h910 => h910.elim fun w204 h911 => h911.elim fun w205 h912 => h912.elim fun w206 h913 => h913.elim fun w207 h914 => h914.elim fun w208 h915 => h915.elim fun w209 h916 => h916.elim fun w210 h917 => h917.elim fun w211 h918 => h918.elim fun w212 h919 => h919.elim fun w213 h920 => h920.elim fun w214 h921 => h921.elim fun w215 h922 => h922.elim fun w216 h923 => h923.elim fun w217 h924 => h924.elim fun w218 h925 => h925.elim fun w219 h926 => h926.elim fun w220 h927 => h927.elim fun w221 h928 => h928.elim fun w222 h929 => ?_
    clear hp h90 h91 h92 h93 h94 h95 h96 h97 h98 h99 h910 h911 h912 h913 h914 h915 h916 h917 h918 h919 h920 h921 h922 h923 h924 h925 h926 h927 h928
    obtain ⟨rfl, e223, e224, e225, e226, e227, e228, e229, e230, e231, e232, e233, e234, e235, e236, e237, e238, e239, e240, e241, e242, e243, e244, e245, e246, e247, hIM⟩ := h929
    obtain ⟨hzx, hd⟩ := hfr fX hzx (z_dsym hd)
    replace hd := z_dsym hd
    have hzm := hz1
    clear hz1 hfr
    obtain ⟨fM, hfm9⟩ : ∃ g : zM, g = f1 := ⟨_, rfl⟩
    rw [← hfm9] at hIM hd hzm
    clear hfm9
    refine lv_pop hx hb dL_law_616 rfl ?_
    refine lv_goto (tgt := 1358) hx hb dL_law_617 (by decide) ?_
    refine W.widen (k := 100 + 10 * (j + 1)) (n := 3000 + 60 * (j + 1)) (show 100 + 10 * j + 2 + 0 ≤ 100 + 10 * (j + 1) by omega) (show 3000 + 60 * j + 20 + 0 ≤ 3000 + 60 * (j + 1) by omega) ?_
    have hPC9 : zPC v134 v140 v141 w206 := by rw [e169, e171]; exact zPC_new hPC hl15 e172 e234
    have hFF9 : zFF v146 v150 v151 w212 := by rw [e175, e176, e177, e237]; exact hFF
    have hRE9 : zRE v152 v155 v156 v157 v158 w215 := by rw [e178, e179, e180, e181, e182, e241]; exact hRE
    have hKR8 : zKR v159 v160 w217 w218 := by rw [e183, e184, e244, e245]; exact hKR
    exact fin _ _ _ (z_LI hIX hIM hzx hzm hd ⟨(e223.trans e163.symm), (e224.trans e164.symm), (e225.trans e165.symm), (e226.trans e166.symm), (e227.trans e167.symm), (e228.trans e168.symm), (e229.trans e169.symm), (e230.trans e170.symm), (e232.trans e173.symm), (e231.trans e171.symm), (e233.trans e174.symm), (e235.trans e175.symm), (e236.trans e176.symm), (e238.trans e178.symm), (e239.trans e179.symm), (e240.trans e180.symm), (e242.trans e181.symm), (e247.trans e186.symm), (e243.trans e183.symm), (e246.trans e185.symm), hPC9, hFF9, hRE9, hKR8⟩) hS (lv_sub hl [0, 1, 2, 3] rfl)
set_option maxHeartbeats 4000000 in
set_option maxRecDepth 100000 in
theorem law_case_10 {p : Program} {l : Launch} {e : Env} {s : State} {m : MethodId} {below : List Frame} {meth : Method} {c : Code} {D : va_G} {cy : Nat → ClassId} {b L : Nat} {xs : Nat → Int32} {o mo j : Nat} (C : zC D cy p s m #[Value.ref b] meth c RL cL_law 4) (hXs : va_X b L xs s s.heap) (hbl : b < s.heap.size) (hbA : ¬ zLA s b) (hL : L ≤ 2560) (hj : 5 * j + 5 ≤ L) (fin : ∀ (H : Heap) (locs : List Loc) (ls : Array Slot), zLI D cy s o mo H → va_S (zLA s) s.heap H locs → lv_has ls 4 [(0, .ref b), (1, .ref o), (2, .ref mo), (3, .int (nI (5 * j)))] → W p l e room_1 s m #[Value.ref b] below meth c H locs (100 + 10 * (j + 1)) (3000 + 60 * (j + 1)) (lw_Z below #[Value.ref b] s) (F0 m 1358 ls [])) {H : Heap} {locs : List Loc} {ls : Array Slot} (hLI : zLI D cy s o mo H) (hS : va_S (zLA s) s.heap H locs) (hl : lv_has ls 4 [(0, .ref b), (1, .ref o), (2, .ref mo), (3, .int (nI (5 * j)))]) : W p l e room_1 s m #[Value.ref b] below meth c H locs (100 + 10 * j) (3000 + 60 * j) (lw_Z below #[Value.ref b] s) (F0 m 620 ls []) := by
  have hx := C.1
  have hb := C.2.1
  have hA : ∀ q, s.heap.size ≤ q → zLA s q := fun q h => h
  refine Exists.elim hLI fun fX h90 => h90.elim fun fM h91 => h91.elim fun fa h92 => h92.elim fun fi h93 => h93.elim fun nu h94 => h94.elim fun fm h95 => h95.elim fun co h96 => h96.elim fun en h97 => h97.elim fun ke h98 => h98.elim fun ev h99 => h99.elim fun al h910 => h910.elim fun ra h911 => h911.elim fun kn h912 => h912.elim fun vq h913 => h913.elim fun ge h914 => h914.elim fun ea h915 => h915.elim fun ma h916 => h916.elim fun u1 h917 => h917.elim fun u2 h918 => h918.elim fun u3 h919 => h919.elim fun gv h920 => h920.elim fun nl h921 => h921.elim fun gu h922 => h922.elim fun nn h923 => h923.elim fun ga h924 => h924.elim fun gr h925 => h925.elim fun fg h926 => h926.elim fun pt h927 => h927.elim fun kd h928 => h928.elim fun ln h929 => h929.elim fun pp h930 => h930.elim fun wg h931 => h931.elim fun wd h932 => h932.elim fun hs h933 => h933.elim fun bf h934 => h934.elim fun nf h935 => h935.elim fun gf h936 => h936.elim fun fq h937 => h937.elim fun fk h938 => h938.elim fun fz h939 => h939.elim fun fc h940 => h940.elim fun nc h941 => h941.elim fun gc h942 => h942.elim fun cn h943 => h943.elim fun ce h944 => h944.elim fun cm h945 => h945.elim fun sq h946 => h946.elim fun mb h947 => h947.elim fun ks h948 => h948.elim fun kk h949 => h949.elim fun kv h950 => h950.elim fun lk h951 => h951.elim fun m_wev h952 => h952.elim fun m_wnb h953 => h953.elim fun m_wki h954 => h954.elim fun m_wmy h955 => h955.elim fun m_wce h956 => h956.elim fun m_wiw h957 => h957.elim fun m_wli h958 => h958.elim fun m_wha h959 => h959.elim fun m_wwt h960 => h960.elim fun m_wfy h961 => h961.elim fun m_wfk h962 => h962.elim fun m_wem h963 => h963.elim fun m_wna h964 => h964.elim fun m_wpl h965 => h965.elim fun m_whs h966 => h966.elim fun m_wk1 h967 => h967.elim fun m_wk2 h968 => h968.elim fun m_wk3 h969 => h969.elim fun m_u1 h970 => h970.elim fun m_u2 h971 => h971.elim fun m_u3 h972 => h972.elim fun m_nl h973 => h973.elim fun m_nn h974 => h974.elim fun m_nf h975 => h975.elim fun m_nc h976 => h976.elim fun m_lk h977 => h977.elim fun m_ks h978 => h978.elim fun m_gv h979 => h979.elim fun m_gu h980 => h980.elim fun m_gk h981 => h981.elim fun m_gm h982 => h982.elim fun m_gc h983 => h983.elim fun m_gw h984 => h984.elim fun m_gl h985 => h985.elim fun m_gh h986 => h986.elim fun m_gt h987 => h987.elim fun m_gy h988 => h988.elim fun m_gq h989 => h989.elim fun m_ge1 h990 => h990.elim fun m_gn1 h991 => h991.elim fun m_gp1 h992 => h992.elim fun m_gs h993 => h993.elim fun m_gx1 h994 => h994.elim fun m_gx2 h995 => h995.elim fun m_gx3 h996 => h996.elim fun m_ln h997 => h997.elim fun m_fz h998 => h998.elim fun m_sq h999 => ?_
  clear hLI h90 h91 h92 h93 h94 h95 h96 h97 h98 h99 h910 h911 h912 h913 h914 h915 h916 h917 h918 h919 h920 h921 h922 h923 h924 h925 h926 h927 h928 h929 h930 h931 h932 h933 h934 h935 h936 h937 h938 h939 h940 h941 h942 h943 h944 h945 h946 h947 h948 h949 h950 h951 h952 h953 h954 h955 h956 h957 h958 h959 h960 h961 h962 h963 h964 h965 h966 h967 h968 h969 h970 h971 h972 h973 h974 h975 h976 h977 h978 h979 h980 h981 h982 h983 h984 h985 h986 h987 h988 h989 h990 h991 h992 h993 h994 h995 h996 h997 h998
  obtain ⟨hIX, hIM, hzx, hzm, hd, rfl, rfl, rfl, rfl, rfl, rfl, rfl, rfl, rfl, rfl, rfl, rfl, rfl, rfl, rfl, rfl, rfl, rfl, rfl, rfl, hPC, hFF, hRE, hKR⟩ := h999
  have hl15 := zIM_ln hIM
  have hfz4 := zIM_fz hIM
  have hn60 := zIM_n60 hIM
  have hf60 := zIM_f60 hIM
  have hc60 := zIM_c60 hIM
  have hs40 := zIM_s40 hIM
  refine lv_aload_n hx hb dL_law_620 rfl (lv_at hl 1 rfl) ?_
  refine lv_aload_n hx hb dL_law_621 rfl (lv_at hl 0 rfl) ?_
  refine lv_iload_n hx hb dL_law_622 rfl (lv_at hl 3 rfl) ?_
  refine lv_iconst (v := 1) hx hb dL_law_623 (by decide) ?_
  refine lv_iadd hx hb dL_law_624 ?_
  refine lv_topi (fun y1 e2 => ?_)
  obtain rfl : y1 = nI (5 * j + 1) := e2.trans (nI_add (5 * j) 1)
  refine z_sld (5 * j + 1) hx hb hXs hbl hbA hS rfl (by omega) (by omega) dL_law_625 ?_
  refine lv_aload_n hx hb dL_law_626 rfl (lv_at hl 0 rfl) ?_
  refine lv_iload_n hx hb dL_law_627 rfl (lv_at hl 3 rfl) ?_
  refine lv_iconst (v := 2) hx hb dL_law_628 (by decide) ?_
  refine lv_iadd hx hb dL_law_629 ?_
  refine lv_topi (fun y3 e4 => ?_)
  obtain rfl : y3 = nI (5 * j + 2) := e4.trans (nI_add (5 * j) 2)
  refine z_sld (5 * j + 2) hx hb hXs hbl hbA hS rfl (by omega) (by omega) dL_law_630 ?_
  refine lv_aload_n hx hb dL_law_631 rfl (lv_at hl 0 rfl) ?_
  refine lv_iload_n hx hb dL_law_632 rfl (lv_at hl 3 rfl) ?_
  refine lv_iconst (v := 3) hx hb dL_law_633 (by decide) ?_
  refine lv_iadd hx hb dL_law_634 ?_
  refine lv_topi (fun y5 e6 => ?_)
  obtain rfl : y5 = nI (5 * j + 3) := e6.trans (nI_add (5 * j) 3)
  refine z_sld (5 * j + 3) hx hb hXs hbl hbA hS rfl (by omega) (by omega) dL_law_635 ?_
  refine z_callVi2 (As := [.int (xs (5 * j + 1)), .int (xs (5 * j + 2)), .int (xs (5 * j + 3))]) C hzx hS hA hl (k_X7_set l D cy fX o fa fi nu fm co en ke ev al ra kn vq ge ea ma m_u1 m_u2 m_u3 m_gv m_nl m_gu m_nn ga gr fg pt m_gk m_ln pp wg m_gw m_gh bf m_nf gf fq fk m_fz fc m_nc gc cn m_ge1 m_gn1 m_sq mb m_ks kk m_gx3 m_lk (xs (5 * j + 1)) (xs (5 * j + 2)) (xs (5 * j + 3))  hIX) zyX7_set mML_61 hIX.1 zl7 rfl rfl (Nat.le_of_ble_eq_true rfl) ⟨Nat.le_of_ble_eq_true rfl, Nat.le_of_ble_eq_true rfl⟩ ⟨show 100 + 10 * j + 0 ≤ 600000 by omega, show 3000 + 60 * j + 0 ≤ 7302249 by omega⟩ dL_law_636 (fun r f1 H locs hp hz1 hS hfr => ?_)
  clear hIX
  refine hp.elim fun v7 h90 => h90.elim fun v8 h91 => h91.elim fun v9 h92 => h92.elim fun v10 h93 => h93.elim fun v11 h94 => h94.elim fun v12 h95 => h95.elim fun v13 h96 => h96.elim fun v14 h97 => h97.elim fun v15 h98 => h98.elim fun v16 h99 => h99.elim fun v17 h910 => h910.elim fun v18 h911 => h911.elim fun v19 h912 => h912.elim fun v20 h913 => h913.elim fun v21 h914 => h914.elim fun v22 h915 => h915.elim fun v23 h916 => h916.elim fun v24 h917 => h917.elim fun v25 h918 => h918.elim fun v26 h919 => h919.elim fun v27 h920 => h920.elim fun v28 h921 => h921.elim fun v29 h922 => h922.elim fun v30 h923 => h923.elim fun v31 h924 => h924.elim fun v32 h925 => h925.elim fun v33 h926 => h926.elim fun v34 h927 => h927.elim fun v35 h928 => h928.elim fun v36 h929 => h929.elim fun v37 h930 => h930.elim fun v38 h931 => h931.elim fun v39 h932 => h932.elim fun v40 h933 => h933.elim fun v41 h934 => ?_
  clear hp h90 h91 h92 h93 h94 h95 h96 h97 h98 h99 h910 h911 h912 h913 h914 h915 h916 h917 h918 h919 h920 h921 h922 h923 h924 h925 h926 h927 h928 h929 h930 h931 h932 h933
  obtain ⟨rfl, e42, e43, e44, e45, e46, e47, e48, e49, e50, e51, e52, e53, e54, e55, e56, e57, e58, e59, e60, e61, e62, e63, e64, e65, hIX⟩ := h934
  obtain ⟨hzm, hd⟩ := hfr fM hzm hd
  have hzx := hz1
  clear hz1 hfr
  obtain ⟨fX, hfx9⟩ : ∃ g : zM, g = f1 := ⟨_, rfl⟩
  rw [← hfx9] at hIX hd hzx
  clear hfx9
  refine lv_pop hx hb dL_law_639 rfl ?_
  refine lv_aload_n hx hb dL_law_640 rfl (lv_at hl 2 rfl) ?_
  refine lv_aload_n hx hb dL_law_641 rfl (lv_at hl 0 rfl) ?_
  refine lv_iload_n hx hb dL_law_642 rfl (lv_at hl 3 rfl) ?_
  refine lv_iconst (v := 1) hx hb dL_law_643 (by decide) ?_
  refine lv_iadd hx hb dL_law_644 ?_
  refine lv_topi (fun y66 e67 => ?_)
  obtain rfl : y66 = nI (5 * j + 1) := e67.trans (nI_add (5 * j) 1)
  refine z_sld (5 * j + 1) hx hb hXs hbl hbA hS rfl (by omega) (by omega) dL_law_645 ?_
  refine lv_aload_n hx hb dL_law_646 rfl (lv_at hl 0 rfl) ?_
  refine lv_iload_n hx hb dL_law_647 rfl (lv_at hl 3 rfl) ?_
  refine lv_iconst (v := 2) hx hb dL_law_648 (by decide) ?_
  refine lv_iadd hx hb dL_law_649 ?_
  refine lv_topi (fun y68 e69 => ?_)
  obtain rfl : y68 = nI (5 * j + 2) := e69.trans (nI_add (5 * j) 2)
  refine z_sld (5 * j + 2) hx hb hXs hbl hbA hS rfl (by omega) (by omega) dL_law_650 ?_
  refine lv_aload_n hx hb dL_law_651 rfl (lv_at hl 0 rfl) ?_
  refine lv_iload_n hx hb dL_law_652 rfl (lv_at hl 3 rfl) ?_
  refine lv_iconst (v := 3) hx hb dL_law_653 (by decide) ?_
  refine lv_iadd hx hb dL_law_654 ?_
  refine lv_topi (fun y70 e71 => ?_)
  obtain rfl : y70 = nI (5 * j + 3) := e71.trans (nI_add (5 * j) 3)
  refine z_sld (5 * j + 3) hx hb hXs hbl hbA hS rfl (by omega) (by omega) dL_law_655 ?_
  refine z_callVi2 (As := [.int (xs (5 * j + 1)), .int (xs (5 * j + 2)), .int (xs (5 * j + 3))]) C hzm hS hA hl (k_X8_set l D cy fM mo m_wev m_wnb m_wki m_wmy m_wce m_wiw m_wli m_wha m_wwt m_wfy m_wfk m_wem m_wna m_wpl m_whs m_wk1 m_wk2 m_wk3 m_u1 m_u2 m_u3 m_nl m_nn m_nf m_nc m_lk m_ks m_gv m_gu m_gk m_gm m_gc m_gw m_gl m_gh m_gt m_gy m_gq m_ge1 m_gn1 m_gp1 m_gs m_gx1 m_gx2 m_gx3 m_ln m_fz m_sq (xs (5 * j + 1)) (xs (5 * j + 2)) (xs (5 * j + 3))  hIM) zyX8_set mML_64 hIM.1 zl8 rfl rfl (Nat.le_of_ble_eq_true rfl) ⟨Nat.le_of_ble_eq_true rfl, Nat.le_of_ble_eq_true rfl⟩ ⟨show 100 + 10 * j + 0 + 0 ≤ 600000 by omega, show 3000 + 60 * j + 0 + 0 ≤ 7302249 by omega⟩ dL_law_656 (fun r f1 H locs hp hz1 hS hfr => ?_)
  clear hIM
  refine hp.elim fun w72 h90 => h90.elim fun w73 h91 => h91.elim fun w74 h92 => h92.elim fun w75 h93 => h93.elim fun w76 h94 => h94.elim fun w77 h95 => h95.elim fun w78 h96 => h96.elim fun w79 h97 => h97.elim fun w80 h98 => h98.elim fun w81 h99 => h99.elim fun w82 h910 => h910.elim fun w83 h911 => h911.elim fun w84 h912 => h912.elim fun w85 h913 => h913.elim fun w86 h914 => h914.elim fun w87 h915 => h915.elim fun w88 h916 => h916.elim fun w89 h917 => h917.elim fun w90 h918 => h918.elim fun w91 h919 => h919.elim fun w92 h920 => h920.elim fun w93 h921 => h921.elim fun w94 h922 => h922.elim fun w95 h923 => h923.elim fun w96 h924 => h924.elim fun w97 h925 => h925.elim fun w98 h926 => h926.elim fun w99 h927 => h927.elim fun w100 h928 => h928.elim fun w101 h929 => ?_
  clear hp h90 h91 h92 h93 h94 h95 h96 h97 h98 h99 h910 h911 h912 h913 h914 h915 h916 h917 h918 h919 h920 h921 h922 h923 h924 h925 h926 h927 h928
  obtain ⟨rfl, e102, e103, e104, e105, e106, e107, e108, e109, e110, e111, e112, e113, e114, e115, e116, e117, e118, e119, e120, e121, e122, e123, e124, e125, e126, hIM⟩ := h929
  obtain ⟨hzx, hd⟩ := hfr fX hzx (z_dsym hd)
  replace hd := z_dsym hd
  have hzm := hz1
  clear hz1 hfr
  obtain ⟨fM, hfm9⟩ : ∃ g : zM, g = f1 := ⟨_, rfl⟩
  rw [← hfm9] at hIM hd hzm
  clear hfm9
  refine lv_pop hx hb dL_law_659 rfl ?_
  refine lv_goto (tgt := 1358) hx hb dL_law_660 (by decide) ?_
  refine W.widen (k := 100 + 10 * (j + 1)) (n := 3000 + 60 * (j + 1)) (show 100 + 10 * j + 0 + 0 ≤ 100 + 10 * (j + 1) by omega) (show 3000 + 60 * j + 0 + 0 ≤ 3000 + 60 * (j + 1) by omega) ?_
  have hPC9 : zPC v13 v19 v20 w85 := by rw [e48, e50, e51, e113]; exact zPC_setc hPC hl15 (q_set_b hn60 hl15)
  have hFF9 : zFF v25 v29 v30 w91 := by rw [e54, e55, e56, e116]; exact hFF
  have hRE9 : zRE v31 v34 v35 v36 v37 w94 := by rw [e57, e58, e59, e60, e61, e120]; exact hRE
  have hKR8 : zKR v38 v39 w96 w97 := by rw [e62, e63, e123, e124]; exact hKR
  exact fin _ _ _ (z_LI hIX hIM hzx hzm hd ⟨(e102.trans e42.symm), (e103.trans e43.symm), (e104.trans e44.symm), (e105.trans e45.symm), (e106.trans e46.symm), (e107.trans e47.symm), (e108.trans e48.symm), (e109.trans e49.symm), (e111.trans e52.symm), (e110.trans e50.symm), (e112.trans e53.symm), (e114.trans e54.symm), (e115.trans e55.symm), (e117.trans e57.symm), (e118.trans e58.symm), (e119.trans e59.symm), (e121.trans e60.symm), (e126.trans e65.symm), (e122.trans e62.symm), (e125.trans e64.symm), hPC9, hFF9, hRE9, hKR8⟩) hS (lv_sub hl [0, 1, 2, 3] rfl)
set_option maxHeartbeats 4000000 in
set_option maxRecDepth 100000 in
theorem law_case_11 {p : Program} {l : Launch} {e : Env} {s : State} {m : MethodId} {below : List Frame} {meth : Method} {c : Code} {D : va_G} {cy : Nat → ClassId} {b L : Nat} {xs : Nat → Int32} {o mo j : Nat} (C : zC D cy p s m #[Value.ref b] meth c RL cL_law 4) (hXs : va_X b L xs s s.heap) (hbl : b < s.heap.size) (hbA : ¬ zLA s b) (hL : L ≤ 2560) (hj : 5 * j + 5 ≤ L) (fin : ∀ (H : Heap) (locs : List Loc) (ls : Array Slot), zLI D cy s o mo H → va_S (zLA s) s.heap H locs → lv_has ls 4 [(0, .ref b), (1, .ref o), (2, .ref mo), (3, .int (nI (5 * j)))] → W p l e room_1 s m #[Value.ref b] below meth c H locs (100 + 10 * (j + 1)) (3000 + 60 * (j + 1)) (lw_Z below #[Value.ref b] s) (F0 m 1358 ls [])) {H : Heap} {locs : List Loc} {ls : Array Slot} (hLI : zLI D cy s o mo H) (hS : va_S (zLA s) s.heap H locs) (hl : lv_has ls 4 [(0, .ref b), (1, .ref o), (2, .ref mo), (3, .int (nI (5 * j)))]) : W p l e room_1 s m #[Value.ref b] below meth c H locs (100 + 10 * j) (3000 + 60 * j) (lw_Z below #[Value.ref b] s) (F0 m 663 ls []) := by
  have hx := C.1
  have hb := C.2.1
  have hA : ∀ q, s.heap.size ≤ q → zLA s q := fun q h => h
  refine Exists.elim hLI fun fX h90 => h90.elim fun fM h91 => h91.elim fun fa h92 => h92.elim fun fi h93 => h93.elim fun nu h94 => h94.elim fun fm h95 => h95.elim fun co h96 => h96.elim fun en h97 => h97.elim fun ke h98 => h98.elim fun ev h99 => h99.elim fun al h910 => h910.elim fun ra h911 => h911.elim fun kn h912 => h912.elim fun vq h913 => h913.elim fun ge h914 => h914.elim fun ea h915 => h915.elim fun ma h916 => h916.elim fun u1 h917 => h917.elim fun u2 h918 => h918.elim fun u3 h919 => h919.elim fun gv h920 => h920.elim fun nl h921 => h921.elim fun gu h922 => h922.elim fun nn h923 => h923.elim fun ga h924 => h924.elim fun gr h925 => h925.elim fun fg h926 => h926.elim fun pt h927 => h927.elim fun kd h928 => h928.elim fun ln h929 => h929.elim fun pp h930 => h930.elim fun wg h931 => h931.elim fun wd h932 => h932.elim fun hs h933 => h933.elim fun bf h934 => h934.elim fun nf h935 => h935.elim fun gf h936 => h936.elim fun fq h937 => h937.elim fun fk h938 => h938.elim fun fz h939 => h939.elim fun fc h940 => h940.elim fun nc h941 => h941.elim fun gc h942 => h942.elim fun cn h943 => h943.elim fun ce h944 => h944.elim fun cm h945 => h945.elim fun sq h946 => h946.elim fun mb h947 => h947.elim fun ks h948 => h948.elim fun kk h949 => h949.elim fun kv h950 => h950.elim fun lk h951 => h951.elim fun m_wev h952 => h952.elim fun m_wnb h953 => h953.elim fun m_wki h954 => h954.elim fun m_wmy h955 => h955.elim fun m_wce h956 => h956.elim fun m_wiw h957 => h957.elim fun m_wli h958 => h958.elim fun m_wha h959 => h959.elim fun m_wwt h960 => h960.elim fun m_wfy h961 => h961.elim fun m_wfk h962 => h962.elim fun m_wem h963 => h963.elim fun m_wna h964 => h964.elim fun m_wpl h965 => h965.elim fun m_whs h966 => h966.elim fun m_wk1 h967 => h967.elim fun m_wk2 h968 => h968.elim fun m_wk3 h969 => h969.elim fun m_u1 h970 => h970.elim fun m_u2 h971 => h971.elim fun m_u3 h972 => h972.elim fun m_nl h973 => h973.elim fun m_nn h974 => h974.elim fun m_nf h975 => h975.elim fun m_nc h976 => h976.elim fun m_lk h977 => h977.elim fun m_ks h978 => h978.elim fun m_gv h979 => h979.elim fun m_gu h980 => h980.elim fun m_gk h981 => h981.elim fun m_gm h982 => h982.elim fun m_gc h983 => h983.elim fun m_gw h984 => h984.elim fun m_gl h985 => h985.elim fun m_gh h986 => h986.elim fun m_gt h987 => h987.elim fun m_gy h988 => h988.elim fun m_gq h989 => h989.elim fun m_ge1 h990 => h990.elim fun m_gn1 h991 => h991.elim fun m_gp1 h992 => h992.elim fun m_gs h993 => h993.elim fun m_gx1 h994 => h994.elim fun m_gx2 h995 => h995.elim fun m_gx3 h996 => h996.elim fun m_ln h997 => h997.elim fun m_fz h998 => h998.elim fun m_sq h999 => ?_
  clear hLI h90 h91 h92 h93 h94 h95 h96 h97 h98 h99 h910 h911 h912 h913 h914 h915 h916 h917 h918 h919 h920 h921 h922 h923 h924 h925 h926 h927 h928 h929 h930 h931 h932 h933 h934 h935 h936 h937 h938 h939 h940 h941 h942 h943 h944 h945 h946 h947 h948 h949 h950 h951 h952 h953 h954 h955 h956 h957 h958 h959 h960 h961 h962 h963 h964 h965 h966 h967 h968 h969 h970 h971 h972 h973 h974 h975 h976 h977 h978 h979 h980 h981 h982 h983 h984 h985 h986 h987 h988 h989 h990 h991 h992 h993 h994 h995 h996 h997 h998
  obtain ⟨hIX, hIM, hzx, hzm, hd, rfl, rfl, rfl, rfl, rfl, rfl, rfl, rfl, rfl, rfl, rfl, rfl, rfl, rfl, rfl, rfl, rfl, rfl, rfl, rfl, hPC, hFF, hRE, hKR⟩ := h999
  have hl15 := zIM_ln hIM
  have hfz4 := zIM_fz hIM
  have hn60 := zIM_n60 hIM
  have hf60 := zIM_f60 hIM
  have hc60 := zIM_c60 hIM
  have hs40 := zIM_s40 hIM
  refine lv_aload_n hx hb dL_law_663 rfl (lv_at hl 1 rfl) ?_
  refine lv_aload_n hx hb dL_law_664 rfl (lv_at hl 0 rfl) ?_
  refine lv_iload_n hx hb dL_law_665 rfl (lv_at hl 3 rfl) ?_
  refine lv_iconst (v := 1) hx hb dL_law_666 (by decide) ?_
  refine lv_iadd hx hb dL_law_667 ?_
  refine lv_topi (fun y1 e2 => ?_)
  obtain rfl : y1 = nI (5 * j + 1) := e2.trans (nI_add (5 * j) 1)
  refine z_sld (5 * j + 1) hx hb hXs hbl hbA hS rfl (by omega) (by omega) dL_law_668 ?_
  refine lv_aload_n hx hb dL_law_669 rfl (lv_at hl 0 rfl) ?_
  refine lv_iload_n hx hb dL_law_670 rfl (lv_at hl 3 rfl) ?_
  refine lv_iconst (v := 2) hx hb dL_law_671 (by decide) ?_
  refine lv_iadd hx hb dL_law_672 ?_
  refine lv_topi (fun y3 e4 => ?_)
  obtain rfl : y3 = nI (5 * j + 2) := e4.trans (nI_add (5 * j) 2)
  refine z_sld (5 * j + 2) hx hb hXs hbl hbA hS rfl (by omega) (by omega) dL_law_673 ?_
  refine z_callVi2 (As := [.int (xs (5 * j + 1)), .int (xs (5 * j + 2))]) C hzx hS hA hl (k_X7_at l D cy fX o fa fi nu fm co en ke ev al ra kn vq ge ea ma m_u1 m_u2 m_u3 m_gv m_nl m_gu m_nn ga gr fg pt m_gk m_ln pp wg m_gw m_gh bf m_nf gf fq fk m_fz fc m_nc gc cn m_ge1 m_gn1 m_sq mb m_ks kk m_gx3 m_lk (xs (5 * j + 1)) (xs (5 * j + 2))  hIX) zyX7_at mML_65 hIX.1 zl7 rfl rfl (Nat.le_of_ble_eq_true rfl) ⟨Nat.le_of_ble_eq_true rfl, Nat.le_of_ble_eq_true rfl⟩ ⟨show 100 + 10 * j + 0 ≤ 600000 by omega, show 3000 + 60 * j + 0 ≤ 7302249 by omega⟩ dL_law_674 (fun r f1 H locs hp hz1 hS hfr => ?_)
  clear hIX
  refine hp.elim fun v5 h90 => h90.elim fun v6 h91 => h91.elim fun v7 h92 => h92.elim fun v8 h93 => h93.elim fun v9 h94 => h94.elim fun v10 h95 => h95.elim fun v11 h96 => h96.elim fun v12 h97 => h97.elim fun v13 h98 => h98.elim fun v14 h99 => h99.elim fun v15 h910 => h910.elim fun v16 h911 => h911.elim fun v17 h912 => h912.elim fun v18 h913 => h913.elim fun v19 h914 => h914.elim fun v20 h915 => h915.elim fun v21 h916 => h916.elim fun v22 h917 => h917.elim fun v23 h918 => h918.elim fun v24 h919 => h919.elim fun v25 h920 => h920.elim fun v26 h921 => h921.elim fun v27 h922 => h922.elim fun v28 h923 => h923.elim fun v29 h924 => h924.elim fun v30 h925 => h925.elim fun v31 h926 => h926.elim fun v32 h927 => h927.elim fun v33 h928 => h928.elim fun v34 h929 => h929.elim fun v35 h930 => h930.elim fun v36 h931 => h931.elim fun v37 h932 => h932.elim fun v38 h933 => h933.elim fun v39 h934 => ?_
  clear hp h90 h91 h92 h93 h94 h95 h96 h97 h98 h99 h910 h911 h912 h913 h914 h915 h916 h917 h918 h919 h920 h921 h922 h923 h924 h925 h926 h927 h928 h929 h930 h931 h932 h933
  obtain ⟨rfl, e40, e41, e42, e43, e44, e45, e46, e47, e48, e49, e50, e51, e52, e53, e54, e55, e56, e57, e58, e59, e60, e61, e62, e63, hIX⟩ := h934
  rw [q_at_congr hPC hl15 hn60] at e40 e41 e42 e43
  obtain ⟨hzm, hd⟩ := hfr fM hzm hd
  have hzx := hz1
  clear hz1 hfr
  obtain ⟨fX, hfx9⟩ : ∃ g : zM, g = f1 := ⟨_, rfl⟩
  rw [← hfx9] at hIX hd hzx
  clear hfx9
  refine lv_topi (fun y64 e65 => ?_)
  obtain rfl : y64 = (q_at m_nn m_gk m_ln (fun i j => m_gc (16 * i + j)) (xs (5 * j + 1)) (xs (5 * j + 2))).1 := e65.trans (congrArg Prod.fst (q_at_congr hPC hl15 hn60))
  refine lv_pop hx hb dL_law_677 rfl ?_
  refine lv_aload_n hx hb dL_law_678 rfl (lv_at hl 2 rfl) ?_
  refine lv_aload_n hx hb dL_law_679 rfl (lv_at hl 0 rfl) ?_
  refine lv_iload_n hx hb dL_law_680 rfl (lv_at hl 3 rfl) ?_
  refine lv_iconst (v := 1) hx hb dL_law_681 (by decide) ?_
  refine lv_iadd hx hb dL_law_682 ?_
  refine lv_topi (fun y66 e67 => ?_)
  obtain rfl : y66 = nI (5 * j + 1) := e67.trans (nI_add (5 * j) 1)
  refine z_sld (5 * j + 1) hx hb hXs hbl hbA hS rfl (by omega) (by omega) dL_law_683 ?_
  refine lv_aload_n hx hb dL_law_684 rfl (lv_at hl 0 rfl) ?_
  refine lv_iload_n hx hb dL_law_685 rfl (lv_at hl 3 rfl) ?_
  refine lv_iconst (v := 2) hx hb dL_law_686 (by decide) ?_
  refine lv_iadd hx hb dL_law_687 ?_
  refine lv_topi (fun y68 e69 => ?_)
  obtain rfl : y68 = nI (5 * j + 2) := e69.trans (nI_add (5 * j) 2)
  refine z_sld (5 * j + 2) hx hb hXs hbl hbA hS rfl (by omega) (by omega) dL_law_688 ?_
  refine z_callVi2 (As := [.int (xs (5 * j + 1)), .int (xs (5 * j + 2))]) C hzm hS hA hl (k_X8_at_ l D cy fM mo m_wev m_wnb m_wki m_wmy m_wce m_wiw m_wli m_wha m_wwt m_wfy m_wfk m_wem m_wna m_wpl m_whs m_wk1 m_wk2 m_wk3 m_u1 m_u2 m_u3 m_nl m_nn m_nf m_nc m_lk m_ks m_gv m_gu m_gk m_gm m_gc m_gw m_gl m_gh m_gt m_gy m_gq m_ge1 m_gn1 m_gp1 m_gs m_gx1 m_gx2 m_gx3 m_ln m_fz m_sq (xs (5 * j + 1)) (xs (5 * j + 2))  hIM) zyX8_at_ mML_68 hIM.1 zl8 rfl rfl (Nat.le_of_ble_eq_true rfl) ⟨Nat.le_of_ble_eq_true rfl, Nat.le_of_ble_eq_true rfl⟩ ⟨show 100 + 10 * j + 0 + 0 ≤ 600000 by omega, show 3000 + 60 * j + 0 + 0 ≤ 7302249 by omega⟩ dL_law_689 (fun r f1 H locs hp hz1 hS hfr => ?_)
  clear hIM
  refine hp.elim fun w70 h90 => h90.elim fun w71 h91 => h91.elim fun w72 h92 => h92.elim fun w73 h93 => h93.elim fun w74 h94 => h94.elim fun w75 h95 => h95.elim fun w76 h96 => h96.elim fun w77 h97 => h97.elim fun w78 h98 => h98.elim fun w79 h99 => h99.elim fun w80 h910 => h910.elim fun w81 h911 => h911.elim fun w82 h912 => h912.elim fun w83 h913 => h913.elim fun w84 h914 => h914.elim fun w85 h915 => h915.elim fun w86 h916 => h916.elim fun w87 h917 => h917.elim fun w88 h918 => h918.elim fun w89 h919 => h919.elim fun w90 h920 => h920.elim fun w91 h921 => h921.elim fun w92 h922 => h922.elim fun w93 h923 => h923.elim fun w94 h924 => h924.elim fun w95 h925 => h925.elim fun w96 h926 => h926.elim fun w97 h927 => h927.elim fun w98 h928 => h928.elim fun w99 h929 => ?_
  clear hp h90 h91 h92 h93 h94 h95 h96 h97 h98 h99 h910 h911 h912 h913 h914 h915 h916 h917 h918 h919 h920 h921 h922 h923 h924 h925 h926 h927 h928
  obtain ⟨rfl, e100, e101, e102, e103, e104, e105, e106, e107, e108, e109, e110, e111, e112, e113, e114, e115, e116, e117, e118, e119, e120, e121, e122, e123, e124, hIM⟩ := h929
  obtain ⟨hzx, hd⟩ := hfr fX hzx (z_dsym hd)
  replace hd := z_dsym hd
  have hzm := hz1
  clear hz1 hfr
  obtain ⟨fM, hfm9⟩ : ∃ g : zM, g = f1 := ⟨_, rfl⟩
  rw [← hfm9] at hIM hd hzm
  clear hfm9
  refine lv_pop hx hb dL_law_692 rfl ?_
  refine lv_goto (tgt := 1358) hx hb dL_law_693 (by decide) ?_
  refine W.widen (k := 100 + 10 * (j + 1)) (n := 3000 + 60 * (j + 1)) (show 100 + 10 * j + 0 + 0 ≤ 100 + 10 * (j + 1) by omega) (show 3000 + 60 * j + 0 + 0 ≤ 3000 + 60 * (j + 1) by omega) ?_
  have hPC9 : zPC v11 v17 v18 w83 := by rw [e46, e48, e49, e111]; exact hPC
  have hFF9 : zFF v23 v27 v28 w89 := by rw [e52, e53, e54, e114]; exact hFF
  have hRE9 : zRE v29 v32 v33 v34 v35 w92 := by rw [e55, e56, e57, e58, e59, e118]; exact hRE
  have hKR8 : zKR v36 v37 w94 w95 := by rw [e60, e61, e121, e122]; exact hKR
  exact fin _ _ _ (z_LI hIX hIM hzx hzm hd ⟨(e100.trans e40.symm), (e101.trans e41.symm), (e102.trans e42.symm), (e103.trans e43.symm), (e104.trans e44.symm), (e105.trans e45.symm), (e106.trans e46.symm), (e107.trans e47.symm), (e109.trans e50.symm), (e108.trans e48.symm), (e110.trans e51.symm), (e112.trans e52.symm), (e113.trans e53.symm), (e115.trans e55.symm), (e116.trans e56.symm), (e117.trans e57.symm), (e119.trans e58.symm), (e124.trans e63.symm), (e120.trans e60.symm), (e123.trans e62.symm), hPC9, hFF9, hRE9, hKR8⟩) hS (lv_sub hl [0, 1, 2, 3] rfl)
