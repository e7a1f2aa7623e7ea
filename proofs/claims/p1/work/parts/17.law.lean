/-! THE CLAIM OUT OF ONE WALK OF THE LAW'S BODY. Your part is whole_start (and what it stands on); all else here is the same for every law, but numbers. -/
def R_law : String := "KindRowsLaw"
def lw_P (b : Addr) (xs : List Int32) (args : Array Value) (s : State) : Prop := args = #[.ref b] ∧ s.IntsAt b xs ∧ xs.length ≤ 5 ∧ (Jvm.Cond.and given_1 narrow_1).before args s = true
def lw_Q (_ : Array Value) (s : State) (o : Outcome) (t : State) : Prop := o = .returned (some (.int 1)) ∧ Framed s o t [] 600000 7302250
def lw_Z (below : List Frame) (a : Array Value) (s : State) : State → Prop := fun t => ∃ o, t.status = .running ∧ Ended t below o ∧ lw_Q a s o t
/-- the law's own end, with 1 on the stack, nothing written that was there before, its room as the claim has it -/
theorem lw_ret {p : Program} {l : Launch} {e : Env} {s : State} {m : MethodId} {below : List Frame} {meth : Method} {c : Code} {b : Nat} (hx : p.tables.exec = Jvm.exec) (hb : c.code = code) (hr : meth.sig.returnType = ret) (hlocks : meth.locks = false) {pc : Nat} {H : Heap} {ls : Array Slot} (hdg : decode code pc = .ok (.ireturn, 1)) : W p l e room_1 s m #[Value.ref b] below meth c H [] 600000 7302250 (lw_Z below #[Value.ref b] s) (F0 m pc ls [.int 1]) := by
  intro T hT X
  obtain ⟨fs, hret, hrun, hended, hW, hframe⟩ := X.leave (v := some (.int 1)) (hlocks := hlocks) (fun h => by rw [hr] at h; cases h)
  have hmeth' : T.vm.method? m = some meth := X.method'
  refine ⟨T.setFrames fs, ?_, .returned (some (.int 1)), hrun, hended, rfl, ⟨_, rfl⟩, hW, hframe⟩
  jvm_step X.here [X.here.top, hx, hb, hdg, hmeth', hr, ret, narrow_b1]
  (try refine ⟨rfl, ?_⟩); (try refine ⟨rfl, ?_⟩)
  first | (intro acts; rw [hret _ acts rfl rfl rfl]) | rw [hret _ _ rfl rfl rfl]
  exact Steps.refl _
/-- what holds at the law's entry: the machine, the code, the tables' words (any of lw_tbl by 'hts w (by decide +kernel)'), the script of L ints xs at the cell b, what the Statement gives of the start (any of its parts by flat_of_before) -/
def lw_At (p : Program) (s : State) (m : MethodId) (meth : Method) (c : Code) (b L : Nat) (xs : Nat → Int32) : Prop :=
  p.tables.exec = Jvm.exec ∧ c.code = code ∧ meth.sig.returnType = ret ∧ c.maxLocals = 4 ∧ s.vm.findClass R_law = some m.cls ∧ (∀ w ∈ lw_tbl, w.before #[Value.ref b] s = true) ∧ va_X b L xs s s.heap ∧ b < s.heap.size ∧ meth.locks = false ∧ (Jvm.Cond.and given_1 narrow_1).before #[Value.ref b] s = true
/-- a fresh object of the class, on a map -/
def zXF (cy : Nat → ClassId) (f : zM) (o fa fi nu fm co en ke ev al ra kn vq : Nat) (ge : Nat → Option Nat) (ea ma : Nat → Nat) : Prop := f o = some (.inr (7, [.ref fa, .ref fi, .ref nu, .int 0, .ref fm, .int 0, .ref co, .int 0, .ref en, .ref ke, .long 1])) ∧ f fa = some (.inr (2, [.int 0, .int (-1), .int 0, .ref ev])) ∧ f ev = some (.inl (cy 0, 8, .inl (fun _ => 0))) ∧ f fi = some (.inr (5, [.ref al, .ref ra, .int 0])) ∧ f al = some (.inl (cy 3, 60, .inr (.inr (.inr (.inr (fun _ => none)))))) ∧ f ra = some (.inl (cy 3, 60, .inr (.inr (.inr (.inr (fun _ => none)))))) ∧ f nu = some (.inl (cy 0, 12, .inl (fun _ => 0))) ∧ f fm = some (.inl (cy 4, 6, .inr (.inr (.inr (.inr (fun _ => none)))))) ∧ f co = some (.inl (cy 5, 60, .inr (.inr (.inr (.inr (fun _ => none)))))) ∧ f en = some (.inl (cy 6, 4, .inr (.inr (.inr (.inr ge))))) ∧ f ke = some (.inr (6, [.ref kn, .ref vq, .int 0])) ∧ (al ≠ ra) ∧ (∀ j, j < 4 → ge j = some (ea j)) ∧ (∀ j, j < 4 → f (ea j) = some (.inr (1, [.ref (ma j), .int 0]))) ∧ (∀ j, j < 4 → f (ma j) = some (.inl (cy 0, 60, .inl (fun _ => 0))))
/-- a fresh reference -/
def zMF (cy : Nat → ClassId) (f : zM) (mo wev wnb wki wmy wce wiw wli wha wwt wfy wfk wem wna wpl whs wk1 wk2 wk3 : Nat) : Prop := f mo = some (.inr (8, [.int 0, .int (-1), .int 0, .ref wev, .int 0, .ref wnb, .int 0, .ref wki, .ref wmy, .ref wce, .ref wiw, .ref wli, .ref wha, .ref wwt, .int 0, .ref wfy, .ref wfk, .int 0, .ref wem, .ref wna, .ref wpl, .ref whs, .long 1, .int 0, .ref wk1, .ref wk2, .ref wk3])) ∧ f wev = some (.inl (cy 0, 8, .inl (fun _ => 0))) ∧ f wnb = some (.inl (cy 0, 12, .inl (fun _ => 0))) ∧ f wki = some (.inl (cy 0, 60, .inl (fun _ => 0))) ∧ f wmy = some (.inl (cy 0, 60, .inl (fun _ => 0))) ∧ f wce = some (.inl (cy 1, 960, .inr (.inl (fun _ => 0)))) ∧ f wiw = some (.inl (cy 2, 60, .inl (fun _ => 0))) ∧ f wli = some (.inl (cy 0, 60, .inl (fun _ => 0))) ∧ f wha = some (.inl (cy 0, 60, .inl (fun _ => 0))) ∧ f wwt = some (.inl (cy 1, 60, .inr (.inl (fun _ => 0)))) ∧ f wfy = some (.inl (cy 0, 6, .inl (fun _ => 0))) ∧ f wfk = some (.inl (cy 0, 24, .inl (fun _ => 0))) ∧ f wem = some (.inl (cy 0, 60, .inl (fun _ => 0))) ∧ f wna = some (.inl (cy 0, 60, .inl (fun _ => 0))) ∧ f wpl = some (.inl (cy 0, 60, .inl (fun _ => 0))) ∧ f whs = some (.inl (cy 0, 4, .inl (fun _ => 0))) ∧ f wk1 = some (.inl (cy 0, 40, .inl (fun _ => 0))) ∧ f wk2 = some (.inl (cy 0, 40, .inl (fun _ => 0))) ∧ f wk3 = some (.inl (cy 0, 40, .inl (fun _ => 0))) ∧ wki ≠ wmy ∧ wli ≠ wha ∧ wki ≠ wli ∧ wki ≠ wha ∧ wmy ≠ wli ∧ wmy ≠ wha ∧ wna ≠ wem ∧ wpl ≠ wem ∧ wpl ≠ wna ∧ wiw ≠ wki ∧ wiw ≠ wmy ∧ wiw ≠ wli ∧ wiw ≠ wha
def zLA (s : State) : Nat → Prop := fun q => s.heap.size ≤ q
theorem z_arr {args : Array Value} {s : State} {ty : FieldType} (hp : ∀ (U : State) (c : ClassId), va_RA U c ty = (U.vm.findClass ("[" ++ ty.toString) = some c)) (h : (Cond.arrayClass ty).before args s = true) : ∃ c : ClassId, ArrOfT s c ty ∧ va_RA s c ty := by
  obtain ⟨c, k, comp, h1, h2, h3⟩ := Cond.arrayClass_spec h
  exact ⟨c, fun n z => ⟨fun q h => (by cases h), k, h2, comp, h3⟩, by rw [hp]; exact h1⟩
theorem z_arrq {args : Array Value} {s : State} {C : String} (h : (Cond.arrayOver (.object C)).before args s = true) : ∃ c : ClassId, ArrOfT s c (.object C) ∧ va_RA s c (.object C) := by
  obtain ⟨comp, c, k, h1, h2, h3, h4, h5⟩ := Cond.arrayOver_spec h
  exact ⟨c, fun n z => ⟨fun q h => (by cases h), k, h3, comp, h4⟩, k, comp, h3, h4, h1, h5⟩
/-- the classes and the arrays' classes at the start -/
theorem z_world {args : Array Value} {s : State} (hts : ∀ w ∈ zTbl, w.before args s = true) : ∃ (D : va_G) (cy : Nat → ClassId), va_K D vwCl (zT cy) s := by
  obtain ⟨c0, i0, k0⟩ := u_known (n := 2) hts zX0_in (hts _ mIa_RX0)
  obtain ⟨c1, i1, k1⟩ := u_known (n := 2) hts zX1_in (hts _ mIa_RX1)
  obtain ⟨c2, i2, k2⟩ := u_known (n := 4) hts zX2_in (hts _ mIa_RX2)
  obtain ⟨c3, i3, k3⟩ := u_known (n := 2) hts zX3_in (hts _ mIa_RX3)
  obtain ⟨c4, i4, k4⟩ := u_known (n := 7) hts zX4_in (hts _ mIa_RX4)
  obtain ⟨c5, i5, k5⟩ := u_known (n := 3) hts zX5_in (hts _ mIa_RX5)
  obtain ⟨c6, i6, k6⟩ := u_known (n := 3) hts zX6_in (hts _ mIa_RX6)
  obtain ⟨c7, i7, k7⟩ := u_known (n := 11) hts zX7_in (hts _ mIa_RX7)
  obtain ⟨c8, i8, k8⟩ := u_known (n := 27) hts zX8_in (hts _ mIa_RX8)
  obtain ⟨a0, g0⟩ := z_arr (ty := .int) (fun _ _ => rfl) (hts _ mA_int)
  obtain ⟨a1, g1⟩ := z_arr (ty := .long) (fun _ _ => rfl) (hts _ mA_long)
  obtain ⟨a2, g2⟩ := z_arr (ty := .boolean) (fun _ _ => rfl) (hts _ mA_boolean)
  obtain ⟨a3, g3⟩ := z_arrq (hts _ mAO_RX4)
  obtain ⟨a4, g4⟩ := z_arrq (hts _ mAO_RX3)
  obtain ⟨a5, g5⟩ := z_arrq (hts _ mAO_RX0)
  obtain ⟨a6, g6⟩ := z_arrq (hts _ mAO_RX1)
  refine ⟨(fun k => match k with | 0 => c0 | 1 => c1 | 2 => c2 | 3 => c3 | 4 => c4 | 5 => c5 | 6 => c6 | 7 => c7 | _ => c8, fun k => match k with | 0 => i0 | 1 => i1 | 2 => i2 | 3 => i3 | 4 => i4 | 5 => i5 | 6 => i6 | 7 => i7 | _ => i8), fun k => match k with | 0 => a0 | 1 => a1 | 2 => a2 | 3 => a3 | 4 => a4 | 5 => a5 | _ => a6, ?_, ?_⟩
  · intro k q hq
    match k, hq with
    | 0, hq => cases hq; exact k0
    | 1, hq => cases hq; exact k1
    | 2, hq => cases hq; exact k2
    | 3, hq => cases hq; exact k3
    | 4, hq => cases hq; exact k4
    | 5, hq => cases hq; exact k5
    | 6, hq => cases hq; exact k6
    | 7, hq => cases hq; exact k7
    | 8, hq => cases hq; exact k8
    | n + 9, hq => cases hq
  · intro k q hq
    match k, hq with
    | 0, hq => cases hq; exact g0
    | 1, hq => cases hq; exact g1
    | 2, hq => cases hq; exact g2
    | 3, hq => cases hq; exact g3
    | 4, hq => cases hq; exact g4
    | 5, hq => cases hq; exact g5
    | 6, hq => cases hq; exact g6
    | n + 7, hq => cases hq
theorem z_sld {p : Program} {l : Launch} {e : Env} {R : Room} {s : State} {m : MethodId} {args : Array Value} {below : List Frame} {meth : Method} {c : Code} {H : Heap} {locs : List Loc} {cells slots : Nat} {Q : State → Prop} {cc : ByteArray} {pc : Nat} {ls : Array Slot} {rest : List Value} {A : Nat → Prop} {H0 : Heap} {b L : Nat} {xs : Nat → Int32} {i : Int32} (j : Nat) (hexec : p.tables.exec = Jvm.exec) (hb : c.code = cc) (hX : va_X b L xs s H0) (hbl : b < H0.size) (hbA : ¬ A b) (hS : va_S A H0 H locs) (hi : i = nI j) (hj : j < L) (hL : L < 2 ^ 31) (hdg : decode cc pc = .ok (.iaload, 1))
    (kk : W p l e R s m args below meth c H locs cells slots Q (F0 m (pc + 1) ls (.int (xs j) :: rest))) : W p l e R s m args below meth c H locs cells slots Q (F0 m pc ls (.int i :: .ref b :: rest)) := by
  subst hi
  refine va_sld hexec hb hX hbl hbA hS (vp_in_nI hj hL) hdg ?_
  rw [nI_clamp (Nat.lt_trans hj hL)]
  exact kk
theorem z_len5 {L : Nat} (h : L < 5) : Int32.ofNat L - 5 < 0 := by
  rcases (show L = 0 ∨ L = 1 ∨ L = 2 ∨ L = 3 ∨ L = 4 by omega) with rfl | rfl | rfl | rfl | rfl <;> decide
theorem z_bk {f g : zM} {q w : Nat} {e : va_E} (hk : ∀ b, b ≠ q → g b = f b) (hq : g q = some e) (h : g w = none) : f w = none := by
  have hne : w ≠ q := by
    rintro rfl
    rw [h] at hq
    cases hq
  rw [← hk w hne]
  exact h
set_option maxHeartbeats 4000000 in
set_option maxRecDepth 100000 in
theorem law_case_0 {p : Program} {l : Launch} {e : Env} {s : State} {m : MethodId} {below : List Frame} {meth : Method} {c : Code} {D : va_G} {cy : Nat → ClassId} {b : Nat} {xs : Nat → Int32} (C : zC D cy p s m #[Value.ref b] meth c RL cL_law 4) (hXs : va_X b 5 xs s s.heap) (hbl : b < s.heap.size) (hbA : ¬ zLA s b) (fin : ∀ (H : Heap) (locs : List Loc) (ls : Array Slot), va_S (zLA s) s.heap H locs → lv_has ls 4 [(0, .ref b), (3, .int 0)] → W p l e room_1 s m #[Value.ref b] below meth c H locs 200 20000 (lw_Z below #[Value.ref b] s) (F0 m 1360 ls [])) {fX f : zM} {o fa fi nu fm co en ke ev al ra kn vq : Nat} {ge : Nat → Option Nat} {ea ma : Nat → Nat} {mo wev wnb wki wmy wce wiw wli wha wwt wfy wfk wem wna wpl whs wk1 wk2 wk3 : Nat} (hXX : zXF cy fX o fa fi nu fm co en ke ev al ra kn vq ge ea ma) (hn_mo : fX mo = none) (hn_wev : fX wev = none) (hn_wnb : fX wnb = none) (hn_wki : fX wki = none) (hn_wmy : fX wmy = none) (hn_wce : fX wce = none) (hn_wiw : fX wiw = none) (hn_wli : fX wli = none) (hn_wha : fX wha = none) (hn_wwt : fX wwt = none) (hn_wfy : fX wfy = none) (hn_wfk : fX wfk = none) (hn_wem : fX wem = none) (hn_wna : fX wna = none) (hn_wpl : fX wpl = none) (hn_whs : fX whs = none) (hn_wk1 : fX wk1 = none) (hn_wk2 : fX wk2 = none) (hn_wk3 : fX wk3 = none) (hXF : zXF cy f o fa fi nu fm co en ke ev al ra kn vq ge ea ma) (hMF : zMF cy f mo wev wnb wki wmy wce wiw wli wha wwt wfy wfk wem wna wpl whs wk1 wk2 wk3) {H : Heap} {locs : List Loc} {ls : Array Slot} (hz : zH D (zLA s) f H) (hS : va_S (zLA s) s.heap H locs) (hl : lv_has ls 4 [(0, .ref b), (1, .ref o), (2, .ref mo), (3, .int 0)]) : W p l e room_1 s m #[Value.ref b] below meth c H locs 100 5000 (lw_Z below #[Value.ref b] s) (F0 m 184 ls []) := by
  have hx := C.1
  have hb := C.2.1
  have hA : ∀ q, s.heap.size ≤ q → zLA s q := fun q h => h
  obtain ⟨px_o, px_fa, px_ev, px_fi, px_al, px_ra, px_nu, px_fm, px_co, px_en, px_ke, har, hG, hE, hM⟩ := hXF
  obtain ⟨pm_mo, pm_wev, pm_wnb, pm_wki, pm_wmy, pm_wce, pm_wiw, pm_wli, pm_wha, pm_wwt, pm_wfy, pm_wfk, pm_wem, pm_wna, pm_wpl, pm_whs, pm_wk1, pm_wk2, pm_wk3, nkm, nlh, nkl, nkh, nml, nmh, nc1, nc2, nc3, nw1, nw2, nw3, nw4⟩ := hMF
  obtain ⟨hx_o, hx_fa, hx_ev, hx_fi, hx_al, hx_ra, hx_nu, hx_fm, hx_co, hx_en, hx_ke, _, _, hxE, hxM⟩ := hXX
  refine lv_aload_n hx hb dL_law_184 rfl (lv_at hl 1 rfl) ?_
  refine lv_aload_n hx hb dL_law_185 rfl (lv_at hl 0 rfl) ?_
  refine lv_iload_n hx hb dL_law_186 rfl (lv_at hl 3 rfl) ?_
  refine lv_iconst (v := 1) hx hb dL_law_187 (by decide) ?_
  refine lv_iadd hx hb dL_law_188 ?_
  refine lv_topi (fun y1 e2 => ?_)
  obtain rfl : y1 = 1 := e2.trans (by decide)
  refine z_sld 1 hx hb hXs hbl hbA hS (by decide) (Nat.le_of_ble_eq_true rfl) (Nat.le_of_ble_eq_true rfl) dL_law_189 ?_
  refine z_callVi (As := [.int (xs 1)]) C hz hS hA hl (k_X7_cause l D cy f o fa fi nu fm co en ke (xs 1) ev px_o px_fa ) zyX7_cause mML_13 px_o zl7 rfl rfl (Nat.le_of_ble_eq_true rfl) ⟨Nat.le_of_ble_eq_true rfl, Nat.le_of_ble_eq_true rfl⟩ ⟨Nat.le_of_ble_eq_true rfl, Nat.le_of_ble_eq_true rfl⟩ dL_law_190 (fun r f3 H locs h4 hz hS => ?_)
  obtain ⟨rfl, k5⟩ := h4
  refine lv_aload_n hx hb dL_law_193 rfl (lv_at hl 2 rfl) ?_
  refine lv_aload_n hx hb dL_law_194 rfl (lv_at hl 0 rfl) ?_
  refine lv_iload_n hx hb dL_law_195 rfl (lv_at hl 3 rfl) ?_
  refine lv_iconst (v := 1) hx hb dL_law_196 (by decide) ?_
  refine lv_iadd hx hb dL_law_197 ?_
  refine lv_topi (fun y6 e7 => ?_)
  obtain rfl : y6 = 1 := e7.trans (by decide)
  refine z_sld 1 hx hb hXs hbl hbA hS (by decide) (Nat.le_of_ble_eq_true rfl) (Nat.le_of_ble_eq_true rfl) dL_law_198 ?_
  have a8 : f3 mo = some (.inr (8, [.int 0, .int (-1), .int 0, .ref wev, .int 0, .ref wnb, .int 0, .ref wki, .ref wmy, .ref wce, .ref wiw, .ref wli, .ref wha, .ref wwt, .int 0, .ref wfy, .ref wfk, .int 0, .ref wem, .ref wna, .ref wpl, .ref whs, .long 1, .int 0, .ref wk1, .ref wk2, .ref wk3])) := k5 _ _ pm_mo 
  refine z_callVi (As := [.int (xs 1)]) C hz hS hA hl (k_X8_cause l D cy f3 mo wev wnb wki wmy wce wiw wli wha wwt wfy wfk wem wna wpl whs wk1 wk2 wk3 (xs 1) a8 ) zyX8_cause mML_17 a8 zl8 rfl rfl (Nat.le_of_ble_eq_true rfl) ⟨Nat.le_of_ble_eq_true rfl, Nat.le_of_ble_eq_true rfl⟩ ⟨Nat.le_of_ble_eq_true rfl, Nat.le_of_ble_eq_true rfl⟩ dL_law_199 (fun r f9 H locs h10 hz hS => ?_)
  subst h10
  refine lv_icmp_eq (tgt := 1360) hx hb dL_law_202 (by decide) (fun _ => ?_) (fun c11 => absurd rfl c11)
  refine W.widen (k := 200) (n := 20000) (Nat.le_of_ble_eq_true rfl) (Nat.le_of_ble_eq_true rfl) ?_
  exact fin _ _ _ hS (lv_sub hl [0, 3] rfl)
set_option maxHeartbeats 4000000 in
set_option maxRecDepth 100000 in
theorem law_case_1 {p : Program} {l : Launch} {e : Env} {s : State} {m : MethodId} {below : List Frame} {meth : Method} {c : Code} {D : va_G} {cy : Nat → ClassId} {b : Nat} {xs : Nat → Int32} (C : zC D cy p s m #[Value.ref b] meth c RL cL_law 4) (hXs : va_X b 5 xs s s.heap) (hbl : b < s.heap.size) (hbA : ¬ zLA s b) (fin : ∀ (H : Heap) (locs : List Loc) (ls : Array Slot), va_S (zLA s) s.heap H locs → lv_has ls 4 [(0, .ref b), (3, .int 0)] → W p l e room_1 s m #[Value.ref b] below meth c H locs 200 20000 (lw_Z below #[Value.ref b] s) (F0 m 1360 ls [])) {fX f : zM} {o fa fi nu fm co en ke ev al ra kn vq : Nat} {ge : Nat → Option Nat} {ea ma : Nat → Nat} {mo wev wnb wki wmy wce wiw wli wha wwt wfy wfk wem wna wpl whs wk1 wk2 wk3 : Nat} (hXX : zXF cy fX o fa fi nu fm co en ke ev al ra kn vq ge ea ma) (hn_mo : fX mo = none) (hn_wev : fX wev = none) (hn_wnb : fX wnb = none) (hn_wki : fX wki = none) (hn_wmy : fX wmy = none) (hn_wce : fX wce = none) (hn_wiw : fX wiw = none) (hn_wli : fX wli = none) (hn_wha : fX wha = none) (hn_wwt : fX wwt = none) (hn_wfy : fX wfy = none) (hn_wfk : fX wfk = none) (hn_wem : fX wem = none) (hn_wna : fX wna = none) (hn_wpl : fX wpl = none) (hn_whs : fX whs = none) (hn_wk1 : fX wk1 = none) (hn_wk2 : fX wk2 = none) (hn_wk3 : fX wk3 = none) (hXF : zXF cy f o fa fi nu fm co en ke ev al ra kn vq ge ea ma) (hMF : zMF cy f mo wev wnb wki wmy wce wiw wli wha wwt wfy wfk wem wna wpl whs wk1 wk2 wk3) {H : Heap} {locs : List Loc} {ls : Array Slot} (hz : zH D (zLA s) f H) (hS : va_S (zLA s) s.heap H locs) (hl : lv_has ls 4 [(0, .ref b), (1, .ref o), (2, .ref mo), (3, .int 0)]) : W p l e room_1 s m #[Value.ref b] below meth c H locs 100 5000 (lw_Z below #[Value.ref b] s) (F0 m 207 ls []) := by
  have hx := C.1
  have hb := C.2.1
  have hA : ∀ q, s.heap.size ≤ q → zLA s q := fun q h => h
  obtain ⟨px_o, px_fa, px_ev, px_fi, px_al, px_ra, px_nu, px_fm, px_co, px_en, px_ke, har, hG, hE, hM⟩ := hXF
  obtain ⟨pm_mo, pm_wev, pm_wnb, pm_wki, pm_wmy, pm_wce, pm_wiw, pm_wli, pm_wha, pm_wwt, pm_wfy, pm_wfk, pm_wem, pm_wna, pm_wpl, pm_whs, pm_wk1, pm_wk2, pm_wk3, nkm, nlh, nkl, nkh, nml, nmh, nc1, nc2, nc3, nw1, nw2, nw3, nw4⟩ := hMF
  obtain ⟨hx_o, hx_fa, hx_ev, hx_fi, hx_al, hx_ra, hx_nu, hx_fm, hx_co, hx_en, hx_ke, _, _, hxE, hxM⟩ := hXX
  refine lv_aload_n hx hb dL_law_207 rfl (lv_at hl 1 rfl) ?_
  refine lv_aload_n hx hb dL_law_208 rfl (lv_at hl 0 rfl) ?_
  refine lv_iload_n hx hb dL_law_209 rfl (lv_at hl 3 rfl) ?_
  refine lv_iconst (v := 1) hx hb dL_law_210 (by decide) ?_
  refine lv_iadd hx hb dL_law_211 ?_
  refine lv_topi (fun y1 e2 => ?_)
  obtain rfl : y1 = 1 := e2.trans (by decide)
  refine z_sld 1 hx hb hXs hbl hbA hS (by decide) (Nat.le_of_ble_eq_true rfl) (Nat.le_of_ble_eq_true rfl) dL_law_212 ?_
  refine z_callVi (As := [.int (xs 1)]) C hz hS hA hl (k_X7_lay l D cy f o fa fi nu fm co en ke (xs 1) (fun _ => 0) px_o px_nu ) zyX7_lay mML_18 px_o zl7 rfl rfl (Nat.le_of_ble_eq_true rfl) ⟨Nat.le_of_ble_eq_true rfl, Nat.le_of_ble_eq_true rfl⟩ ⟨Nat.le_of_ble_eq_true rfl, Nat.le_of_ble_eq_true rfl⟩ dL_law_213 (fun r f3 H locs h4 hz hS => ?_)
  obtain ⟨rfl, k5⟩ := h4
  refine lv_aload_n hx hb dL_law_216 rfl (lv_at hl 2 rfl) ?_
  refine lv_aload_n hx hb dL_law_217 rfl (lv_at hl 0 rfl) ?_
  refine lv_iload_n hx hb dL_law_218 rfl (lv_at hl 3 rfl) ?_
  refine lv_iconst (v := 1) hx hb dL_law_219 (by decide) ?_
  refine lv_iadd hx hb dL_law_220 ?_
  refine lv_topi (fun y6 e7 => ?_)
  obtain rfl : y6 = 1 := e7.trans (by decide)
  refine z_sld 1 hx hb hXs hbl hbA hS (by decide) (Nat.le_of_ble_eq_true rfl) (Nat.le_of_ble_eq_true rfl) dL_law_221 ?_
  have a8 : f3 mo = some (.inr (8, [.int 0, .int (-1), .int 0, .ref wev, .int 0, .ref wnb, .int 0, .ref wki, .ref wmy, .ref wce, .ref wiw, .ref wli, .ref wha, .ref wwt, .int 0, .ref wfy, .ref wfk, .int 0, .ref wem, .ref wna, .ref wpl, .ref whs, .long 1, .int 0, .ref wk1, .ref wk2, .ref wk3])) := k5 _ _ pm_mo (Ne.symm (z_nn hn_mo hx_o)) (Ne.symm (z_nn hn_mo hx_nu))
  have a9 : f3 wnb = some (.inl (cy 0, 12, .inl (fun _ => 0))) := k5 _ _ pm_wnb (Ne.symm (z_nn hn_wnb hx_o)) (Ne.symm (z_nn hn_wnb hx_nu))
  refine z_callVi (As := [.int (xs 1)]) C hz hS hA hl (k_X8_lay l D cy f3 mo wev wnb wki wmy wce wiw wli wha wwt wfy wfk wem wna wpl whs wk1 wk2 wk3 (xs 1) (fun _ => 0) a8 a9 ) zyX8_lay mML_21 a8 zl8 rfl rfl (Nat.le_of_ble_eq_true rfl) ⟨Nat.le_of_ble_eq_true rfl, Nat.le_of_ble_eq_true rfl⟩ ⟨Nat.le_of_ble_eq_true rfl, Nat.le_of_ble_eq_true rfl⟩ dL_law_222 (fun r f10 H locs h11 hz hS => ?_)
  subst h11
  refine lv_icmp_eq (tgt := 1360) hx hb dL_law_225 (by decide) (fun _ => ?_) (fun c12 => absurd rfl c12)
  refine W.widen (k := 200) (n := 20000) (Nat.le_of_ble_eq_true rfl) (Nat.le_of_ble_eq_true rfl) ?_
  exact fin _ _ _ hS (lv_sub hl [0, 3] rfl)
set_option maxHeartbeats 4000000 in
set_option maxRecDepth 100000 in
theorem law_case_2 {p : Program} {l : Launch} {e : Env} {s : State} {m : MethodId} {below : List Frame} {meth : Method} {c : Code} {D : va_G} {cy : Nat → ClassId} {b : Nat} {xs : Nat → Int32} (C : zC D cy p s m #[Value.ref b] meth c RL cL_law 4) (hXs : va_X b 5 xs s s.heap) (hbl : b < s.heap.size) (hbA : ¬ zLA s b) (fin : ∀ (H : Heap) (locs : List Loc) (ls : Array Slot), va_S (zLA s) s.heap H locs → lv_has ls 4 [(0, .ref b), (3, .int 0)] → W p l e room_1 s m #[Value.ref b] below meth c H locs 200 20000 (lw_Z below #[Value.ref b] s) (F0 m 1360 ls [])) {fX f : zM} {o fa fi nu fm co en ke ev al ra kn vq : Nat} {ge : Nat → Option Nat} {ea ma : Nat → Nat} {mo wev wnb wki wmy wce wiw wli wha wwt wfy wfk wem wna wpl whs wk1 wk2 wk3 : Nat} (hXX : zXF cy fX o fa fi nu fm co en ke ev al ra kn vq ge ea ma) (hn_mo : fX mo = none) (hn_wev : fX wev = none) (hn_wnb : fX wnb = none) (hn_wki : fX wki = none) (hn_wmy : fX wmy = none) (hn_wce : fX wce = none) (hn_wiw : fX wiw = none) (hn_wli : fX wli = none) (hn_wha : fX wha = none) (hn_wwt : fX wwt = none) (hn_wfy : fX wfy = none) (hn_wfk : fX wfk = none) (hn_wem : fX wem = none) (hn_wna : fX wna = none) (hn_wpl : fX wpl = none) (hn_whs : fX whs = none) (hn_wk1 : fX wk1 = none) (hn_wk2 : fX wk2 = none) (hn_wk3 : fX wk3 = none) (hXF : zXF cy f o fa fi nu fm co en ke ev al ra kn vq ge ea ma) (hMF : zMF cy f mo wev wnb wki wmy wce wiw wli wha wwt wfy wfk wem wna wpl whs wk1 wk2 wk3) {H : Heap} {locs : List Loc} {ls : Array Slot} (hz : zH D (zLA s) f H) (hS : va_S (zLA s) s.heap H locs) (hl : lv_has ls 4 [(0, .ref b), (1, .ref o), (2, .ref mo), (3, .int 0)]) : W p l e room_1 s m #[Value.ref b] below meth c H locs 100 5000 (lw_Z below #[Value.ref b] s) (F0 m 230 ls []) := by
  have hx := C.1
  have hb := C.2.1
  have hA : ∀ q, s.heap.size ≤ q → zLA s q := fun q h => h
  obtain ⟨px_o, px_fa, px_ev, px_fi, px_al, px_ra, px_nu, px_fm, px_co, px_en, px_ke, har, hG, hE, hM⟩ := hXF
  obtain ⟨pm_mo, pm_wev, pm_wnb, pm_wki, pm_wmy, pm_wce, pm_wiw, pm_wli, pm_wha, pm_wwt, pm_wfy, pm_wfk, pm_wem, pm_wna, pm_wpl, pm_whs, pm_wk1, pm_wk2, pm_wk3, nkm, nlh, nkl, nkh, nml, nmh, nc1, nc2, nc3, nw1, nw2, nw3, nw4⟩ := hMF
  obtain ⟨hx_o, hx_fa, hx_ev, hx_fi, hx_al, hx_ra, hx_nu, hx_fm, hx_co, hx_en, hx_ke, _, _, hxE, hxM⟩ := hXX
  refine lv_aload_n hx hb dL_law_230 rfl (lv_at hl 1 rfl) ?_
  refine z_callVi (As := []) C hz hS hA hl (k_X7_wipe l D cy f o fa fi nu fm co en ke px_o ) zyX7_wipe mML_22 px_o zl7 rfl rfl (Nat.le_of_ble_eq_true rfl) ⟨Nat.le_of_ble_eq_true rfl, Nat.le_of_ble_eq_true rfl⟩ ⟨Nat.le_of_ble_eq_true rfl, Nat.le_of_ble_eq_true rfl⟩ dL_law_231 (fun r f1 H locs h2 hz hS => ?_)
  obtain ⟨rfl, k3⟩ := h2
  refine lv_aload_n hx hb dL_law_234 rfl (lv_at hl 2 rfl) ?_
  have a4 : f1 mo = some (.inr (8, [.int 0, .int (-1), .int 0, .ref wev, .int 0, .ref wnb, .int 0, .ref wki, .ref wmy, .ref wce, .ref wiw, .ref wli, .ref wha, .ref wwt, .int 0, .ref wfy, .ref wfk, .int 0, .ref wem, .ref wna, .ref wpl, .ref whs, .long 1, .int 0, .ref wk1, .ref wk2, .ref wk3])) := k3 _ _ pm_mo (Ne.symm (z_nn hn_mo hx_o))
  refine z_callVi (As := []) C hz hS hA hl (k_X8_wipe l D cy f1 mo wev wnb wki wmy wce wiw wli wha wwt wfy wfk wem wna wpl whs wk1 wk2 wk3 a4 ) zyX8_wipe mML_26 a4 zl8 rfl rfl (Nat.le_of_ble_eq_true rfl) ⟨Nat.le_of_ble_eq_true rfl, Nat.le_of_ble_eq_true rfl⟩ ⟨Nat.le_of_ble_eq_true rfl, Nat.le_of_ble_eq_true rfl⟩ dL_law_235 (fun r f5 H locs h6 hz hS => ?_)
  subst h6
  refine lv_icmp_eq (tgt := 1360) hx hb dL_law_238 (by decide) (fun _ => ?_) (fun c7 => absurd rfl c7)
  refine W.widen (k := 200) (n := 20000) (Nat.le_of_ble_eq_true rfl) (Nat.le_of_ble_eq_true rfl) ?_
  exact fin _ _ _ hS (lv_sub hl [0, 3] rfl)
set_option maxHeartbeats 4000000 in
set_option maxRecDepth 100000 in
theorem law_case_3 {p : Program} {l : Launch} {e : Env} {s : State} {m : MethodId} {below : List Frame} {meth : Method} {c : Code} {D : va_G} {cy : Nat → ClassId} {b : Nat} {xs : Nat → Int32} (C : zC D cy p s m #[Value.ref b] meth c RL cL_law 4) (hXs : va_X b 5 xs s s.heap) (hbl : b < s.heap.size) (hbA : ¬ zLA s b) (fin : ∀ (H : Heap) (locs : List Loc) (ls : Array Slot), va_S (zLA s) s.heap H locs → lv_has ls 4 [(0, .ref b), (3, .int 0)] → W p l e room_1 s m #[Value.ref b] below meth c H locs 200 20000 (lw_Z below #[Value.ref b] s) (F0 m 1360 ls [])) {fX f : zM} {o fa fi nu fm co en ke ev al ra kn vq : Nat} {ge : Nat → Option Nat} {ea ma : Nat → Nat} {mo wev wnb wki wmy wce wiw wli wha wwt wfy wfk wem wna wpl whs wk1 wk2 wk3 : Nat} (hXX : zXF cy fX o fa fi nu fm co en ke ev al ra kn vq ge ea ma) (hn_mo : fX mo = none) (hn_wev : fX wev = none) (hn_wnb : fX wnb = none) (hn_wki : fX wki = none) (hn_wmy : fX wmy = none) (hn_wce : fX wce = none) (hn_wiw : fX wiw = none) (hn_wli : fX wli = none) (hn_wha : fX wha = none) (hn_wwt : fX wwt = none) (hn_wfy : fX wfy = none) (hn_wfk : fX wfk = none) (hn_wem : fX wem = none) (hn_wna : fX wna = none) (hn_wpl : fX wpl = none) (hn_whs : fX whs = none) (hn_wk1 : fX wk1 = none) (hn_wk2 : fX wk2 = none) (hn_wk3 : fX wk3 = none) (hXF : zXF cy f o fa fi nu fm co en ke ev al ra kn vq ge ea ma) (hMF : zMF cy f mo wev wnb wki wmy wce wiw wli wha wwt wfy wfk wem wna wpl whs wk1 wk2 wk3) {H : Heap} {locs : List Loc} {ls : Array Slot} (hz : zH D (zLA s) f H) (hS : va_S (zLA s) s.heap H locs) (hl : lv_has ls 4 [(0, .ref b), (1, .ref o), (2, .ref mo), (3, .int 0)]) : W p l e room_1 s m #[Value.ref b] below meth c H locs 100 5000 (lw_Z below #[Value.ref b] s) (F0 m 243 ls []) := by
  have hx := C.1
  have hb := C.2.1
  have hA : ∀ q, s.heap.size ≤ q → zLA s q := fun q h => h
  obtain ⟨px_o, px_fa, px_ev, px_fi, px_al, px_ra, px_nu, px_fm, px_co, px_en, px_ke, har, hG, hE, hM⟩ := hXF
  obtain ⟨pm_mo, pm_wev, pm_wnb, pm_wki, pm_wmy, pm_wce, pm_wiw, pm_wli, pm_wha, pm_wwt, pm_wfy, pm_wfk, pm_wem, pm_wna, pm_wpl, pm_whs, pm_wk1, pm_wk2, pm_wk3, nkm, nlh, nkl, nkh, nml, nmh, nc1, nc2, nc3, nw1, nw2, nw3, nw4⟩ := hMF
  obtain ⟨hx_o, hx_fa, hx_ev, hx_fi, hx_al, hx_ra, hx_nu, hx_fm, hx_co, hx_en, hx_ke, _, _, hxE, hxM⟩ := hXX
  refine lv_aload_n hx hb dL_law_243 rfl (lv_at hl 1 rfl) ?_
  refine lv_aload_n hx hb dL_law_244 rfl (lv_at hl 0 rfl) ?_
  refine lv_iload_n hx hb dL_law_245 rfl (lv_at hl 3 rfl) ?_
  refine lv_iconst (v := 1) hx hb dL_law_246 (by decide) ?_
  refine lv_iadd hx hb dL_law_247 ?_
  refine lv_topi (fun y1 e2 => ?_)
  obtain rfl : y1 = 1 := e2.trans (by decide)
  refine z_sld 1 hx hb hXs hbl hbA hS (by decide) (Nat.le_of_ble_eq_true rfl) (Nat.le_of_ble_eq_true rfl) dL_law_248 ?_
  refine lv_i2l (v := (xs 1).toInt64) hx hb dL_law_249 rfl ?_
  refine lv_bipush (v := 32) hx hb dL_law_250 (by decide) ?_
  refine lv_lshl (v := ((xs 1).toInt64) <<< ((32 : Int32).toInt64 &&& 63)) hx hb dL_law_252 rfl ?_
  refine lv_aload_n hx hb dL_law_253 rfl (lv_at hl 0 rfl) ?_
  refine lv_iload_n hx hb dL_law_254 rfl (lv_at hl 3 rfl) ?_
  refine lv_iconst (v := 2) hx hb dL_law_255 (by decide) ?_
  refine lv_iadd hx hb dL_law_256 ?_
  refine lv_topi (fun y3 e4 => ?_)
  obtain rfl : y3 = 2 := e4.trans (by decide)
  refine z_sld 2 hx hb hXs hbl hbA hS (by decide) (Nat.le_of_ble_eq_true rfl) (Nat.le_of_ble_eq_true rfl) dL_law_257 ?_
  refine lv_i2l (v := (xs 2).toInt64) hx hb dL_law_258 rfl ?_
  refine lv_ldc2 (v := 4294967295) hx hb C.2.2.2.1 (C.2.2.2.2.1 _ mKL_27) dL_law_259 ?_
  refine lv_land hx hb dL_law_262 ?_
  refine lv_lor hx hb dL_law_263 ?_
  refine lv_aload_n hx hb dL_law_264 rfl (lv_at hl 0 rfl) ?_
  refine lv_iload_n hx hb dL_law_265 rfl (lv_at hl 3 rfl) ?_
  refine lv_iconst (v := 3) hx hb dL_law_266 (by decide) ?_
  refine lv_iadd hx hb dL_law_267 ?_
  refine lv_topi (fun y5 e6 => ?_)
  obtain rfl : y5 = 3 := e6.trans (by decide)
  refine z_sld 3 hx hb hXs hbl hbA hS (by decide) (Nat.le_of_ble_eq_true rfl) (Nat.le_of_ble_eq_true rfl) dL_law_268 ?_
  refine lv_i2l (v := (xs 3).toInt64) hx hb dL_law_269 rfl ?_
  refine lv_bipush (v := 32) hx hb dL_law_270 (by decide) ?_
  refine lv_lshl (v := ((xs 3).toInt64) <<< ((32 : Int32).toInt64 &&& 63)) hx hb dL_law_272 rfl ?_
  refine lv_aload_n hx hb dL_law_273 rfl (lv_at hl 0 rfl) ?_
  refine lv_iload_n hx hb dL_law_274 rfl (lv_at hl 3 rfl) ?_
  refine lv_iconst (v := 4) hx hb dL_law_275 (by decide) ?_
  refine lv_iadd hx hb dL_law_276 ?_
  refine lv_topi (fun y7 e8 => ?_)
  obtain rfl : y7 = 4 := e8.trans (by decide)
  refine z_sld 4 hx hb hXs hbl hbA hS (by decide) (Nat.le_of_ble_eq_true rfl) (Nat.le_of_ble_eq_true rfl) dL_law_277 ?_
  refine lv_i2l (v := (xs 4).toInt64) hx hb dL_law_278 rfl ?_
  refine lv_ldc2 (v := 4294967295) hx hb C.2.2.2.1 (C.2.2.2.2.1 _ mKL_27) dL_law_279 ?_
  refine lv_land hx hb dL_law_282 ?_
  refine lv_lor hx hb dL_law_283 ?_
  refine z_callVi (As := [.long ((((xs 1).toInt64) <<< ((32 : Int32).toInt64 &&& 63)) ||| (((xs 2).toInt64) &&& 4294967295)), .long ((((xs 3).toInt64) <<< ((32 : Int32).toInt64 &&& 63)) ||| (((xs 4).toInt64) &&& 4294967295))]) C hz hS hA hl (k_X7_point l D cy f o fa fi nu fm co en ke ((((xs 1).toInt64) <<< ((32 : Int32).toInt64 &&& 63)) ||| (((xs 2).toInt64) &&& 4294967295)) ((((xs 3).toInt64) <<< ((32 : Int32).toInt64 &&& 63)) ||| (((xs 4).toInt64) &&& 4294967295)) 0 (-1) 0 ev al ra (fun _ => none) (fun _ => none) px_o px_fa px_fi px_al px_ra har) zyX7_point mML_29 px_o zl7 rfl rfl (Nat.le_of_ble_eq_true rfl) ⟨Nat.le_of_ble_eq_true rfl, Nat.le_of_ble_eq_true rfl⟩ ⟨Nat.le_of_ble_eq_true rfl, Nat.le_of_ble_eq_true rfl⟩ dL_law_284 (fun r f9 H locs h10 hz hS => ?_)
  obtain ⟨rfl, k11⟩ := h10
  refine lv_aload_n hx hb dL_law_287 rfl (lv_at hl 2 rfl) ?_
  refine lv_aload_n hx hb dL_law_288 rfl (lv_at hl 0 rfl) ?_
  refine lv_iload_n hx hb dL_law_289 rfl (lv_at hl 3 rfl) ?_
  refine lv_iconst (v := 1) hx hb dL_law_290 (by decide) ?_
  refine lv_iadd hx hb dL_law_291 ?_
  refine lv_topi (fun y12 e13 => ?_)
  obtain rfl : y12 = 1 := e13.trans (by decide)
  refine z_sld 1 hx hb hXs hbl hbA hS (by decide) (Nat.le_of_ble_eq_true rfl) (Nat.le_of_ble_eq_true rfl) dL_law_292 ?_
  refine lv_i2l (v := (xs 1).toInt64) hx hb dL_law_293 rfl ?_
  refine lv_bipush (v := 32) hx hb dL_law_294 (by decide) ?_
  refine lv_lshl (v := ((xs 1).toInt64) <<< ((32 : Int32).toInt64 &&& 63)) hx hb dL_law_296 rfl ?_
  refine lv_aload_n hx hb dL_law_297 rfl (lv_at hl 0 rfl) ?_
  refine lv_iload_n hx hb dL_law_298 rfl (lv_at hl 3 rfl) ?_
  refine lv_iconst (v := 2) hx hb dL_law_299 (by decide) ?_
  refine lv_iadd hx hb dL_law_300 ?_
  refine lv_topi (fun y14 e15 => ?_)
  obtain rfl : y14 = 2 := e15.trans (by decide)
  refine z_sld 2 hx hb hXs hbl hbA hS (by decide) (Nat.le_of_ble_eq_true rfl) (Nat.le_of_ble_eq_true rfl) dL_law_301 ?_
  refine lv_i2l (v := (xs 2).toInt64) hx hb dL_law_302 rfl ?_
  refine lv_ldc2 (v := 4294967295) hx hb C.2.2.2.1 (C.2.2.2.2.1 _ mKL_27) dL_law_303 ?_
  refine lv_land hx hb dL_law_306 ?_
  refine lv_lor hx hb dL_law_307 ?_
  refine lv_aload_n hx hb dL_law_308 rfl (lv_at hl 0 rfl) ?_
  refine lv_iload_n hx hb dL_law_309 rfl (lv_at hl 3 rfl) ?_
  refine lv_iconst (v := 3) hx hb dL_law_310 (by decide) ?_
  refine lv_iadd hx hb dL_law_311 ?_
  refine lv_topi (fun y16 e17 => ?_)
  obtain rfl : y16 = 3 := e17.trans (by decide)
  refine z_sld 3 hx hb hXs hbl hbA hS (by decide) (Nat.le_of_ble_eq_true rfl) (Nat.le_of_ble_eq_true rfl) dL_law_312 ?_
  refine lv_i2l (v := (xs 3).toInt64) hx hb dL_law_313 rfl ?_
  refine lv_bipush (v := 32) hx hb dL_law_314 (by decide) ?_
  refine lv_lshl (v := ((xs 3).toInt64) <<< ((32 : Int32).toInt64 &&& 63)) hx hb dL_law_316 rfl ?_
  refine lv_aload_n hx hb dL_law_317 rfl (lv_at hl 0 rfl) ?_
  refine lv_iload_n hx hb dL_law_318 rfl (lv_at hl 3 rfl) ?_
  refine lv_iconst (v := 4) hx hb dL_law_319 (by decide) ?_
  refine lv_iadd hx hb dL_law_320 ?_
  refine lv_topi (fun y18 e19 => ?_)
  obtain rfl : y18 = 4 := e19.trans (by decide)
  refine z_sld 4 hx hb hXs hbl hbA hS (by decide) (Nat.le_of_ble_eq_true rfl) (Nat.le_of_ble_eq_true rfl) dL_law_321 ?_
  refine lv_i2l (v := (xs 4).toInt64) hx hb dL_law_322 rfl ?_
  refine lv_ldc2 (v := 4294967295) hx hb C.2.2.2.1 (C.2.2.2.2.1 _ mKL_27) dL_law_323 ?_
  refine lv_land hx hb dL_law_326 ?_
  refine lv_lor hx hb dL_law_327 ?_
  have a20 : f9 mo = some (.inr (8, [.int 0, .int (-1), .int 0, .ref wev, .int 0, .ref wnb, .int 0, .ref wki, .ref wmy, .ref wce, .ref wiw, .ref wli, .ref wha, .ref wwt, .int 0, .ref wfy, .ref wfk, .int 0, .ref wem, .ref wna, .ref wpl, .ref whs, .long 1, .int 0, .ref wk1, .ref wk2, .ref wk3])) := k11 _ _ pm_mo (Ne.symm (z_nn hn_mo hx_fa)) (Ne.symm (z_nn hn_mo hx_fi)) (Ne.symm (z_nn hn_mo hx_al)) (Ne.symm (z_nn hn_mo hx_ra))
  have a21 : f9 wki = some (.inl (cy 0, 60, .inl (fun _ => 0))) := k11 _ _ pm_wki (Ne.symm (z_nn hn_wki hx_fa)) (Ne.symm (z_nn hn_wki hx_fi)) (Ne.symm (z_nn hn_wki hx_al)) (Ne.symm (z_nn hn_wki hx_ra))
  have a22 : f9 wmy = some (.inl (cy 0, 60, .inl (fun _ => 0))) := k11 _ _ pm_wmy (Ne.symm (z_nn hn_wmy hx_fa)) (Ne.symm (z_nn hn_wmy hx_fi)) (Ne.symm (z_nn hn_wmy hx_al)) (Ne.symm (z_nn hn_wmy hx_ra))
  have a23 : f9 wce = some (.inl (cy 1, 960, .inr (.inl (fun _ => 0)))) := k11 _ _ pm_wce (Ne.symm (z_nn hn_wce hx_fa)) (Ne.symm (z_nn hn_wce hx_fi)) (Ne.symm (z_nn hn_wce hx_al)) (Ne.symm (z_nn hn_wce hx_ra))
  have a24 : f9 wli = some (.inl (cy 0, 60, .inl (fun _ => 0))) := k11 _ _ pm_wli (Ne.symm (z_nn hn_wli hx_fa)) (Ne.symm (z_nn hn_wli hx_fi)) (Ne.symm (z_nn hn_wli hx_al)) (Ne.symm (z_nn hn_wli hx_ra))
  have a25 : f9 wha = some (.inl (cy 0, 60, .inl (fun _ => 0))) := k11 _ _ pm_wha (Ne.symm (z_nn hn_wha hx_fa)) (Ne.symm (z_nn hn_wha hx_fi)) (Ne.symm (z_nn hn_wha hx_al)) (Ne.symm (z_nn hn_wha hx_ra))
  have a26 : f9 wev = some (.inl (cy 0, 8, .inl (fun _ => 0))) := k11 _ _ pm_wev (Ne.symm (z_nn hn_wev hx_fa)) (Ne.symm (z_nn hn_wev hx_fi)) (Ne.symm (z_nn hn_wev hx_al)) (Ne.symm (z_nn hn_wev hx_ra))
  refine z_callVi (As := [.long ((((xs 1).toInt64) <<< ((32 : Int32).toInt64 &&& 63)) ||| (((xs 2).toInt64) &&& 4294967295)), .long ((((xs 3).toInt64) <<< ((32 : Int32).toInt64 &&& 63)) ||| (((xs 4).toInt64) &&& 4294967295))]) C hz hS hA hl (k_X8_point l D cy f9 mo wev wnb wki wmy wce wiw wli wha wwt wfy wfk wem wna wpl whs wk1 wk2 wk3 ((((xs 1).toInt64) <<< ((32 : Int32).toInt64 &&& 63)) ||| (((xs 2).toInt64) &&& 4294967295)) ((((xs 3).toInt64) <<< ((32 : Int32).toInt64 &&& 63)) ||| (((xs 4).toInt64) &&& 4294967295)) (fun _ => 0) (fun _ => 0) (fun _ => 0) (fun _ => 0) (fun _ => 0) (fun _ => 0) a20 a21 a22 a23 a24 a25 a26 nkm nlh nkl nkh nml nmh) zyX8_point mML_33 a20 zl8 rfl rfl (Nat.le_of_ble_eq_true rfl) ⟨Nat.le_of_ble_eq_true rfl, Nat.le_of_ble_eq_true rfl⟩ ⟨Nat.le_of_ble_eq_true rfl, Nat.le_of_ble_eq_true rfl⟩ dL_law_328 (fun r f27 H locs h28 hz hS => ?_)
  subst h28
  refine lv_icmp_eq (tgt := 1360) hx hb dL_law_331 (by decide) (fun _ => ?_) (fun c29 => absurd rfl c29)
  refine W.widen (k := 200) (n := 20000) (Nat.le_of_ble_eq_true rfl) (Nat.le_of_ble_eq_true rfl) ?_
  exact fin _ _ _ hS (lv_sub hl [0, 3] rfl)
set_option maxHeartbeats 4000000 in
set_option maxRecDepth 100000 in
theorem law_case_4 {p : Program} {l : Launch} {e : Env} {s : State} {m : MethodId} {below : List Frame} {meth : Method} {c : Code} {D : va_G} {cy : Nat → ClassId} {b : Nat} {xs : Nat → Int32} (C : zC D cy p s m #[Value.ref b] meth c RL cL_law 4) (hXs : va_X b 5 xs s s.heap) (hbl : b < s.heap.size) (hbA : ¬ zLA s b) (fin : ∀ (H : Heap) (locs : List Loc) (ls : Array Slot), va_S (zLA s) s.heap H locs → lv_has ls 4 [(0, .ref b), (3, .int 0)] → W p l e room_1 s m #[Value.ref b] below meth c H locs 200 20000 (lw_Z below #[Value.ref b] s) (F0 m 1360 ls [])) {fX f : zM} {o fa fi nu fm co en ke ev al ra kn vq : Nat} {ge : Nat → Option Nat} {ea ma : Nat → Nat} {mo wev wnb wki wmy wce wiw wli wha wwt wfy wfk wem wna wpl whs wk1 wk2 wk3 : Nat} (hXX : zXF cy fX o fa fi nu fm co en ke ev al ra kn vq ge ea ma) (hn_mo : fX mo = none) (hn_wev : fX wev = none) (hn_wnb : fX wnb = none) (hn_wki : fX wki = none) (hn_wmy : fX wmy = none) (hn_wce : fX wce = none) (hn_wiw : fX wiw = none) (hn_wli : fX wli = none) (hn_wha : fX wha = none) (hn_wwt : fX wwt = none) (hn_wfy : fX wfy = none) (hn_wfk : fX wfk = none) (hn_wem : fX wem = none) (hn_wna : fX wna = none) (hn_wpl : fX wpl = none) (hn_whs : fX whs = none) (hn_wk1 : fX wk1 = none) (hn_wk2 : fX wk2 = none) (hn_wk3 : fX wk3 = none) (hXF : zXF cy f o fa fi nu fm co en ke ev al ra kn vq ge ea ma) (hMF : zMF cy f mo wev wnb wki wmy wce wiw wli wha wwt wfy wfk wem wna wpl whs wk1 wk2 wk3) {H : Heap} {locs : List Loc} {ls : Array Slot} (hz : zH D (zLA s) f H) (hS : va_S (zLA s) s.heap H locs) (hl : lv_has ls 4 [(0, .ref b), (1, .ref o), (2, .ref mo), (3, .int 0)]) : W p l e room_1 s m #[Value.ref b] below meth c H locs 100 5000 (lw_Z below #[Value.ref b] s) (F0 m 336 ls []) := by
  have hx := C.1
  have hb := C.2.1
  have hA : ∀ q, s.heap.size ≤ q → zLA s q := fun q h => h
  obtain ⟨px_o, px_fa, px_ev, px_fi, px_al, px_ra, px_nu, px_fm, px_co, px_en, px_ke, har, hG, hE, hM⟩ := hXF
  obtain ⟨pm_mo, pm_wev, pm_wnb, pm_wki, pm_wmy, pm_wce, pm_wiw, pm_wli, pm_wha, pm_wwt, pm_wfy, pm_wfk, pm_wem, pm_wna, pm_wpl, pm_whs, pm_wk1, pm_wk2, pm_wk3, nkm, nlh, nkl, nkh, nml, nmh, nc1, nc2, nc3, nw1, nw2, nw3, nw4⟩ := hMF
  obtain ⟨hx_o, hx_fa, hx_ev, hx_fi, hx_al, hx_ra, hx_nu, hx_fm, hx_co, hx_en, hx_ke, _, _, hxE, hxM⟩ := hXX
  refine lv_aload_n hx hb dL_law_336 rfl (lv_at hl 1 rfl) ?_
  refine lv_aload_n hx hb dL_law_337 rfl (lv_at hl 0 rfl) ?_
  refine lv_iload_n hx hb dL_law_338 rfl (lv_at hl 3 rfl) ?_
  refine lv_iconst (v := 1) hx hb dL_law_339 (by decide) ?_
  refine lv_iadd hx hb dL_law_340 ?_
  refine lv_topi (fun y1 e2 => ?_)
  obtain rfl : y1 = 1 := e2.trans (by decide)
  refine z_sld 1 hx hb hXs hbl hbA hS (by decide) (Nat.le_of_ble_eq_true rfl) (Nat.le_of_ble_eq_true rfl) dL_law_341 ?_
  refine lv_aload_n hx hb dL_law_342 rfl (lv_at hl 0 rfl) ?_
  refine lv_iload_n hx hb dL_law_343 rfl (lv_at hl 3 rfl) ?_
  refine lv_iconst (v := 2) hx hb dL_law_344 (by decide) ?_
  refine lv_iadd hx hb dL_law_345 ?_
  refine lv_topi (fun y3 e4 => ?_)
  obtain rfl : y3 = 2 := e4.trans (by decide)
  refine z_sld 2 hx hb hXs hbl hbA hS (by decide) (Nat.le_of_ble_eq_true rfl) (Nat.le_of_ble_eq_true rfl) dL_law_346 ?_
  refine z_callVi (As := [.int (xs 1), .int (xs 2)]) C hz hS hA hl (k_X7_span l D cy f o fa fi nu fm co en ke (xs 1) (xs 2) 0 (-1) 0 ev al ra (fun _ => none) (fun _ => none) (fun _ => 0) px_o px_fa px_fi px_al px_ra px_ev har) zyX7_span mML_34 px_o zl7 rfl rfl (Nat.le_of_ble_eq_true rfl) ⟨Nat.le_of_ble_eq_true rfl, Nat.le_of_ble_eq_true rfl⟩ ⟨Nat.le_of_ble_eq_true rfl, Nat.le_of_ble_eq_true rfl⟩ dL_law_347 (fun r f5 H locs h6 hz hS => ?_)
  obtain ⟨rfl, k7⟩ := h6
  refine lv_aload_n hx hb dL_law_350 rfl (lv_at hl 2 rfl) ?_
  refine lv_aload_n hx hb dL_law_351 rfl (lv_at hl 0 rfl) ?_
  refine lv_iload_n hx hb dL_law_352 rfl (lv_at hl 3 rfl) ?_
  refine lv_iconst (v := 1) hx hb dL_law_353 (by decide) ?_
  refine lv_iadd hx hb dL_law_354 ?_
  refine lv_topi (fun y8 e9 => ?_)
  obtain rfl : y8 = 1 := e9.trans (by decide)
  refine z_sld 1 hx hb hXs hbl hbA hS (by decide) (Nat.le_of_ble_eq_true rfl) (Nat.le_of_ble_eq_true rfl) dL_law_355 ?_
  refine lv_aload_n hx hb dL_law_356 rfl (lv_at hl 0 rfl) ?_
  refine lv_iload_n hx hb dL_law_357 rfl (lv_at hl 3 rfl) ?_
  refine lv_iconst (v := 2) hx hb dL_law_358 (by decide) ?_
  refine lv_iadd hx hb dL_law_359 ?_
  refine lv_topi (fun y10 e11 => ?_)
  obtain rfl : y10 = 2 := e11.trans (by decide)
  refine z_sld 2 hx hb hXs hbl hbA hS (by decide) (Nat.le_of_ble_eq_true rfl) (Nat.le_of_ble_eq_true rfl) dL_law_360 ?_
  have a12 : f5 mo = some (.inr (8, [.int 0, .int (-1), .int 0, .ref wev, .int 0, .ref wnb, .int 0, .ref wki, .ref wmy, .ref wce, .ref wiw, .ref wli, .ref wha, .ref wwt, .int 0, .ref wfy, .ref wfk, .int 0, .ref wem, .ref wna, .ref wpl, .ref whs, .long 1, .int 0, .ref wk1, .ref wk2, .ref wk3])) := k7 _ _ pm_mo (Ne.symm (z_nn hn_mo hx_fa)) (Ne.symm (z_nn hn_mo hx_fi)) (Ne.symm (z_nn hn_mo hx_al)) (Ne.symm (z_nn hn_mo hx_ra)) (Ne.symm (z_nn hn_mo hx_ev))
  have a13 : f5 wki = some (.inl (cy 0, 60, .inl (fun _ => 0))) := k7 _ _ pm_wki (Ne.symm (z_nn hn_wki hx_fa)) (Ne.symm (z_nn hn_wki hx_fi)) (Ne.symm (z_nn hn_wki hx_al)) (Ne.symm (z_nn hn_wki hx_ra)) (Ne.symm (z_nn hn_wki hx_ev))
  have a14 : f5 wmy = some (.inl (cy 0, 60, .inl (fun _ => 0))) := k7 _ _ pm_wmy (Ne.symm (z_nn hn_wmy hx_fa)) (Ne.symm (z_nn hn_wmy hx_fi)) (Ne.symm (z_nn hn_wmy hx_al)) (Ne.symm (z_nn hn_wmy hx_ra)) (Ne.symm (z_nn hn_wmy hx_ev))
  have a15 : f5 wce = some (.inl (cy 1, 960, .inr (.inl (fun _ => 0)))) := k7 _ _ pm_wce (Ne.symm (z_nn hn_wce hx_fa)) (Ne.symm (z_nn hn_wce hx_fi)) (Ne.symm (z_nn hn_wce hx_al)) (Ne.symm (z_nn hn_wce hx_ra)) (Ne.symm (z_nn hn_wce hx_ev))
  have a16 : f5 wli = some (.inl (cy 0, 60, .inl (fun _ => 0))) := k7 _ _ pm_wli (Ne.symm (z_nn hn_wli hx_fa)) (Ne.symm (z_nn hn_wli hx_fi)) (Ne.symm (z_nn hn_wli hx_al)) (Ne.symm (z_nn hn_wli hx_ra)) (Ne.symm (z_nn hn_wli hx_ev))
  have a17 : f5 wha = some (.inl (cy 0, 60, .inl (fun _ => 0))) := k7 _ _ pm_wha (Ne.symm (z_nn hn_wha hx_fa)) (Ne.symm (z_nn hn_wha hx_fi)) (Ne.symm (z_nn hn_wha hx_al)) (Ne.symm (z_nn hn_wha hx_ra)) (Ne.symm (z_nn hn_wha hx_ev))
  have a18 : f5 wev = some (.inl (cy 0, 8, .inl (fun _ => 0))) := k7 _ _ pm_wev (Ne.symm (z_nn hn_wev hx_fa)) (Ne.symm (z_nn hn_wev hx_fi)) (Ne.symm (z_nn hn_wev hx_al)) (Ne.symm (z_nn hn_wev hx_ra)) (Ne.symm (z_nn hn_wev hx_ev))
  refine z_callVi (As := [.int (xs 1), .int (xs 2)]) C hz hS hA hl (k_X8_span l D cy f5 mo wev wnb wki wmy wce wiw wli wha wwt wfy wfk wem wna wpl whs wk1 wk2 wk3 (xs 1) (xs 2) (fun _ => 0) (fun _ => 0) (fun _ => 0) (fun _ => 0) (fun _ => 0) (fun _ => 0) a12 a13 a14 a15 a16 a17 a18 nkm nlh nkl nkh nml nmh) zyX8_span mML_38 a12 zl8 rfl rfl (Nat.le_of_ble_eq_true rfl) ⟨Nat.le_of_ble_eq_true rfl, Nat.le_of_ble_eq_true rfl⟩ ⟨Nat.le_of_ble_eq_true rfl, Nat.le_of_ble_eq_true rfl⟩ dL_law_361 (fun r f19 H locs h20 hz hS => ?_)
  subst h20
  refine lv_icmp_eq (tgt := 1360) hx hb dL_law_364 (by decide) (fun _ => ?_) (fun c21 => absurd rfl c21)
  refine W.widen (k := 200) (n := 20000) (Nat.le_of_ble_eq_true rfl) (Nat.le_of_ble_eq_true rfl) ?_
  exact fin _ _ _ hS (lv_sub hl [0, 3] rfl)
set_option maxHeartbeats 4000000 in
set_option maxRecDepth 100000 in
theorem law_case_5 {p : Program} {l : Launch} {e : Env} {s : State} {m : MethodId} {below : List Frame} {meth : Method} {c : Code} {D : va_G} {cy : Nat → ClassId} {b : Nat} {xs : Nat → Int32} (C : zC D cy p s m #[Value.ref b] meth c RL cL_law 4) (hXs : va_X b 5 xs s s.heap) (hbl : b < s.heap.size) (hbA : ¬ zLA s b) (fin : ∀ (H : Heap) (locs : List Loc) (ls : Array Slot), va_S (zLA s) s.heap H locs → lv_has ls 4 [(0, .ref b), (3, .int 0)] → W p l e room_1 s m #[Value.ref b] below meth c H locs 200 20000 (lw_Z below #[Value.ref b] s) (F0 m 1360 ls [])) {fX f : zM} {o fa fi nu fm co en ke ev al ra kn vq : Nat} {ge : Nat → Option Nat} {ea ma : Nat → Nat} {mo wev wnb wki wmy wce wiw wli wha wwt wfy wfk wem wna wpl whs wk1 wk2 wk3 : Nat} (hXX : zXF cy fX o fa fi nu fm co en ke ev al ra kn vq ge ea ma) (hn_mo : fX mo = none) (hn_wev : fX wev = none) (hn_wnb : fX wnb = none) (hn_wki : fX wki = none) (hn_wmy : fX wmy = none) (hn_wce : fX wce = none) (hn_wiw : fX wiw = none) (hn_wli : fX wli = none) (hn_wha : fX wha = none) (hn_wwt : fX wwt = none) (hn_wfy : fX wfy = none) (hn_wfk : fX wfk = none) (hn_wem : fX wem = none) (hn_wna : fX wna = none) (hn_wpl : fX wpl = none) (hn_whs : fX whs = none) (hn_wk1 : fX wk1 = none) (hn_wk2 : fX wk2 = none) (hn_wk3 : fX wk3 = none) (hXF : zXF cy f o fa fi nu fm co en ke ev al ra kn vq ge ea ma) (hMF : zMF cy f mo wev wnb wki wmy wce wiw wli wha wwt wfy wfk wem wna wpl whs wk1 wk2 wk3) {H : Heap} {locs : List Loc} {ls : Array Slot} (hz : zH D (zLA s) f H) (hS : va_S (zLA s) s.heap H locs) (hl : lv_has ls 4 [(0, .ref b), (1, .ref o), (2, .ref mo), (3, .int 0)]) : W p l e room_1 s m #[Value.ref b] below meth c H locs 100 5000 (lw_Z below #[Value.ref b] s) (F0 m 369 ls []) := by
  have hx := C.1
  have hb := C.2.1
  have hA : ∀ q, s.heap.size ≤ q → zLA s q := fun q h => h
  obtain ⟨px_o, px_fa, px_ev, px_fi, px_al, px_ra, px_nu, px_fm, px_co, px_en, px_ke, har, hG, hE, hM⟩ := hXF
  obtain ⟨pm_mo, pm_wev, pm_wnb, pm_wki, pm_wmy, pm_wce, pm_wiw, pm_wli, pm_wha, pm_wwt, pm_wfy, pm_wfk, pm_wem, pm_wna, pm_wpl, pm_whs, pm_wk1, pm_wk2, pm_wk3, nkm, nlh, nkl, nkh, nml, nmh, nc1, nc2, nc3, nw1, nw2, nw3, nw4⟩ := hMF
  obtain ⟨hx_o, hx_fa, hx_ev, hx_fi, hx_al, hx_ra, hx_nu, hx_fm, hx_co, hx_en, hx_ke, _, _, hxE, hxM⟩ := hXX
  refine lv_aload_n hx hb dL_law_369 rfl (lv_at hl 1 rfl) ?_
  refine lv_aload_n hx hb dL_law_370 rfl (lv_at hl 0 rfl) ?_
  refine lv_iload_n hx hb dL_law_371 rfl (lv_at hl 3 rfl) ?_
  refine lv_iconst (v := 1) hx hb dL_law_372 (by decide) ?_
  refine lv_iadd hx hb dL_law_373 ?_
  refine lv_topi (fun y1 e2 => ?_)
  obtain rfl : y1 = 1 := e2.trans (by decide)
  refine z_sld 1 hx hb hXs hbl hbA hS (by decide) (Nat.le_of_ble_eq_true rfl) (Nat.le_of_ble_eq_true rfl) dL_law_374 ?_
  refine lv_aload_n hx hb dL_law_375 rfl (lv_at hl 0 rfl) ?_
  refine lv_iload_n hx hb dL_law_376 rfl (lv_at hl 3 rfl) ?_
  refine lv_iconst (v := 2) hx hb dL_law_377 (by decide) ?_
  refine lv_iadd hx hb dL_law_378 ?_
  refine lv_topi (fun y3 e4 => ?_)
  obtain rfl : y3 = 2 := e4.trans (by decide)
  refine z_sld 2 hx hb hXs hbl hbA hS (by decide) (Nat.le_of_ble_eq_true rfl) (Nat.le_of_ble_eq_true rfl) dL_law_379 ?_
  refine lv_aload_n hx hb dL_law_380 rfl (lv_at hl 0 rfl) ?_
  refine lv_iload_n hx hb dL_law_381 rfl (lv_at hl 3 rfl) ?_
  refine lv_iconst (v := 3) hx hb dL_law_382 (by decide) ?_
  refine lv_iadd hx hb dL_law_383 ?_
  refine lv_topi (fun y5 e6 => ?_)
  obtain rfl : y5 = 3 := e6.trans (by decide)
  refine z_sld 3 hx hb hXs hbl hbA hS (by decide) (Nat.le_of_ble_eq_true rfl) (Nat.le_of_ble_eq_true rfl) dL_law_384 ?_
  refine z_callVi (As := [.int (xs 1), .int (xs 2), .int (xs 3)]) C hz hS hA hl (k_X7_wide l D cy f o fa fi nu fm co en ke (xs 1) (xs 2) (xs 3) 0 (-1) 0 ev al ra (fun _ => none) (fun _ => none) (fun _ => 0) px_o px_fa px_fi px_al px_ra px_ev har) zyX7_wide mML_39 px_o zl7 rfl rfl (Nat.le_of_ble_eq_true rfl) ⟨Nat.le_of_ble_eq_true rfl, Nat.le_of_ble_eq_true rfl⟩ ⟨Nat.le_of_ble_eq_true rfl, Nat.le_of_ble_eq_true rfl⟩ dL_law_385 (fun r f7 H locs h8 hz hS => ?_)
  obtain ⟨rfl, k9⟩ := h8
  refine lv_aload_n hx hb dL_law_388 rfl (lv_at hl 2 rfl) ?_
  refine lv_aload_n hx hb dL_law_389 rfl (lv_at hl 0 rfl) ?_
  refine lv_iload_n hx hb dL_law_390 rfl (lv_at hl 3 rfl) ?_
  refine lv_iconst (v := 1) hx hb dL_law_391 (by decide) ?_
  refine lv_iadd hx hb dL_law_392 ?_
  refine lv_topi (fun y10 e11 => ?_)
  obtain rfl : y10 = 1 := e11.trans (by decide)
  refine z_sld 1 hx hb hXs hbl hbA hS (by decide) (Nat.le_of_ble_eq_true rfl) (Nat.le_of_ble_eq_true rfl) dL_law_393 ?_
  refine lv_aload_n hx hb dL_law_394 rfl (lv_at hl 0 rfl) ?_
  refine lv_iload_n hx hb dL_law_395 rfl (lv_at hl 3 rfl) ?_
  refine lv_iconst (v := 2) hx hb dL_law_396 (by decide) ?_
  refine lv_iadd hx hb dL_law_397 ?_
  refine lv_topi (fun y12 e13 => ?_)
  obtain rfl : y12 = 2 := e13.trans (by decide)
  refine z_sld 2 hx hb hXs hbl hbA hS (by decide) (Nat.le_of_ble_eq_true rfl) (Nat.le_of_ble_eq_true rfl) dL_law_398 ?_
  refine lv_aload_n hx hb dL_law_399 rfl (lv_at hl 0 rfl) ?_
  refine lv_iload_n hx hb dL_law_400 rfl (lv_at hl 3 rfl) ?_
  refine lv_iconst (v := 3) hx hb dL_law_401 (by decide) ?_
  refine lv_iadd hx hb dL_law_402 ?_
  refine lv_topi (fun y14 e15 => ?_)
  obtain rfl : y14 = 3 := e15.trans (by decide)
  refine z_sld 3 hx hb hXs hbl hbA hS (by decide) (Nat.le_of_ble_eq_true rfl) (Nat.le_of_ble_eq_true rfl) dL_law_403 ?_
  have a16 : f7 mo = some (.inr (8, [.int 0, .int (-1), .int 0, .ref wev, .int 0, .ref wnb, .int 0, .ref wki, .ref wmy, .ref wce, .ref wiw, .ref wli, .ref wha, .ref wwt, .int 0, .ref wfy, .ref wfk, .int 0, .ref wem, .ref wna, .ref wpl, .ref whs, .long 1, .int 0, .ref wk1, .ref wk2, .ref wk3])) := k9 _ _ pm_mo (Ne.symm (z_nn hn_mo hx_fa)) (Ne.symm (z_nn hn_mo hx_fi)) (Ne.symm (z_nn hn_mo hx_al)) (Ne.symm (z_nn hn_mo hx_ra)) (Ne.symm (z_nn hn_mo hx_ev))
  have a17 : f7 wki = some (.inl (cy 0, 60, .inl (fun _ => 0))) := k9 _ _ pm_wki (Ne.symm (z_nn hn_wki hx_fa)) (Ne.symm (z_nn hn_wki hx_fi)) (Ne.symm (z_nn hn_wki hx_al)) (Ne.symm (z_nn hn_wki hx_ra)) (Ne.symm (z_nn hn_wki hx_ev))
  have a18 : f7 wmy = some (.inl (cy 0, 60, .inl (fun _ => 0))) := k9 _ _ pm_wmy (Ne.symm (z_nn hn_wmy hx_fa)) (Ne.symm (z_nn hn_wmy hx_fi)) (Ne.symm (z_nn hn_wmy hx_al)) (Ne.symm (z_nn hn_wmy hx_ra)) (Ne.symm (z_nn hn_wmy hx_ev))
  have a19 : f7 wce = some (.inl (cy 1, 960, .inr (.inl (fun _ => 0)))) := k9 _ _ pm_wce (Ne.symm (z_nn hn_wce hx_fa)) (Ne.symm (z_nn hn_wce hx_fi)) (Ne.symm (z_nn hn_wce hx_al)) (Ne.symm (z_nn hn_wce hx_ra)) (Ne.symm (z_nn hn_wce hx_ev))
  have a20 : f7 wli = some (.inl (cy 0, 60, .inl (fun _ => 0))) := k9 _ _ pm_wli (Ne.symm (z_nn hn_wli hx_fa)) (Ne.symm (z_nn hn_wli hx_fi)) (Ne.symm (z_nn hn_wli hx_al)) (Ne.symm (z_nn hn_wli hx_ra)) (Ne.symm (z_nn hn_wli hx_ev))
  have a21 : f7 wha = some (.inl (cy 0, 60, .inl (fun _ => 0))) := k9 _ _ pm_wha (Ne.symm (z_nn hn_wha hx_fa)) (Ne.symm (z_nn hn_wha hx_fi)) (Ne.symm (z_nn hn_wha hx_al)) (Ne.symm (z_nn hn_wha hx_ra)) (Ne.symm (z_nn hn_wha hx_ev))
  have a22 : f7 wev = some (.inl (cy 0, 8, .inl (fun _ => 0))) := k9 _ _ pm_wev (Ne.symm (z_nn hn_wev hx_fa)) (Ne.symm (z_nn hn_wev hx_fi)) (Ne.symm (z_nn hn_wev hx_al)) (Ne.symm (z_nn hn_wev hx_ra)) (Ne.symm (z_nn hn_wev hx_ev))
  refine z_callVi (As := [.int (xs 1), .int (xs 2), .int (xs 3)]) C hz hS hA hl (k_X8_wide l D cy f7 mo wev wnb wki wmy wce wiw wli wha wwt wfy wfk wem wna wpl whs wk1 wk2 wk3 (xs 1) (xs 2) (xs 3) (fun _ => 0) (fun _ => 0) (fun _ => 0) (fun _ => 0) (fun _ => 0) (fun _ => 0) a16 a17 a18 a19 a20 a21 a22 nkm nlh nkl nkh nml nmh) zyX8_wide mML_43 a16 zl8 rfl rfl (Nat.le_of_ble_eq_true rfl) ⟨Nat.le_of_ble_eq_true rfl, Nat.le_of_ble_eq_true rfl⟩ ⟨Nat.le_of_ble_eq_true rfl, Nat.le_of_ble_eq_true rfl⟩ dL_law_404 (fun r f23 H locs h24 hz hS => ?_)
  subst h24
  refine lv_icmp_eq (tgt := 1360) hx hb dL_law_407 (by decide) (fun _ => ?_) (fun c25 => absurd rfl c25)
  refine W.widen (k := 200) (n := 20000) (Nat.le_of_ble_eq_true rfl) (Nat.le_of_ble_eq_true rfl) ?_
  exact fin _ _ _ hS (lv_sub hl [0, 3] rfl)
set_option maxHeartbeats 4000000 in
set_option maxRecDepth 100000 in
theorem law_case_6 {p : Program} {l : Launch} {e : Env} {s : State} {m : MethodId} {below : List Frame} {meth : Method} {c : Code} {D : va_G} {cy : Nat → ClassId} {b : Nat} {xs : Nat → Int32} (C : zC D cy p s m #[Value.ref b] meth c RL cL_law 4) (hXs : va_X b 5 xs s s.heap) (hbl : b < s.heap.size) (hbA : ¬ zLA s b) (fin : ∀ (H : Heap) (locs : List Loc) (ls : Array Slot), va_S (zLA s) s.heap H locs → lv_has ls 4 [(0, .ref b), (3, .int 0)] → W p l e room_1 s m #[Value.ref b] below meth c H locs 200 20000 (lw_Z below #[Value.ref b] s) (F0 m 1360 ls [])) {fX f : zM} {o fa fi nu fm co en ke ev al ra kn vq : Nat} {ge : Nat → Option Nat} {ea ma : Nat → Nat} {mo wev wnb wki wmy wce wiw wli wha wwt wfy wfk wem wna wpl whs wk1 wk2 wk3 : Nat} (hXX : zXF cy fX o fa fi nu fm co en ke ev al ra kn vq ge ea ma) (hn_mo : fX mo = none) (hn_wev : fX wev = none) (hn_wnb : fX wnb = none) (hn_wki : fX wki = none) (hn_wmy : fX wmy = none) (hn_wce : fX wce = none) (hn_wiw : fX wiw = none) (hn_wli : fX wli = none) (hn_wha : fX wha = none) (hn_wwt : fX wwt = none) (hn_wfy : fX wfy = none) (hn_wfk : fX wfk = none) (hn_wem : fX wem = none) (hn_wna : fX wna = none) (hn_wpl : fX wpl = none) (hn_whs : fX whs = none) (hn_wk1 : fX wk1 = none) (hn_wk2 : fX wk2 = none) (hn_wk3 : fX wk3 = none) (hXF : zXF cy f o fa fi nu fm co en ke ev al ra kn vq ge ea ma) (hMF : zMF cy f mo wev wnb wki wmy wce wiw wli wha wwt wfy wfk wem wna wpl whs wk1 wk2 wk3) {H : Heap} {locs : List Loc} {ls : Array Slot} (hz : zH D (zLA s) f H) (hS : va_S (zLA s) s.heap H locs) (hl : lv_has ls 4 [(0, .ref b), (1, .ref o), (2, .ref mo), (3, .int 0)]) : W p l e room_1 s m #[Value.ref b] below meth c H locs 100 5000 (lw_Z below #[Value.ref b] s) (F0 m 412 ls []) := by
  have hx := C.1
  have hb := C.2.1
  have hA : ∀ q, s.heap.size ≤ q → zLA s q := fun q h => h
  obtain ⟨px_o, px_fa, px_ev, px_fi, px_al, px_ra, px_nu, px_fm, px_co, px_en, px_ke, har, hG, hE, hM⟩ := hXF
  obtain ⟨pm_mo, pm_wev, pm_wnb, pm_wki, pm_wmy, pm_wce, pm_wiw, pm_wli, pm_wha, pm_wwt, pm_wfy, pm_wfk, pm_wem, pm_wna, pm_wpl, pm_whs, pm_wk1, pm_wk2, pm_wk3, nkm, nlh, nkl, nkh, nml, nmh, nc1, nc2, nc3, nw1, nw2, nw3, nw4⟩ := hMF
  obtain ⟨hx_o, hx_fa, hx_ev, hx_fi, hx_al, hx_ra, hx_nu, hx_fm, hx_co, hx_en, hx_ke, _, _, hxE, hxM⟩ := hXX
  refine lv_aload_n hx hb dL_law_412 rfl (lv_at hl 1 rfl) ?_
  refine lv_aload_n hx hb dL_law_413 rfl (lv_at hl 0 rfl) ?_
  refine lv_iload_n hx hb dL_law_414 rfl (lv_at hl 3 rfl) ?_
  refine lv_iconst (v := 1) hx hb dL_law_415 (by decide) ?_
  refine lv_iadd hx hb dL_law_416 ?_
  refine lv_topi (fun y1 e2 => ?_)
  obtain rfl : y1 = 1 := e2.trans (by decide)
  refine z_sld 1 hx hb hXs hbl hbA hS (by decide) (Nat.le_of_ble_eq_true rfl) (Nat.le_of_ble_eq_true rfl) dL_law_417 ?_
  refine lv_i2l (v := (xs 1).toInt64) hx hb dL_law_418 rfl ?_
  refine lv_bipush (v := 32) hx hb dL_law_419 (by decide) ?_
  refine lv_lshl (v := ((xs 1).toInt64) <<< ((32 : Int32).toInt64 &&& 63)) hx hb dL_law_421 rfl ?_
  refine lv_aload_n hx hb dL_law_422 rfl (lv_at hl 0 rfl) ?_
  refine lv_iload_n hx hb dL_law_423 rfl (lv_at hl 3 rfl) ?_
  refine lv_iconst (v := 2) hx hb dL_law_424 (by decide) ?_
  refine lv_iadd hx hb dL_law_425 ?_
  refine lv_topi (fun y3 e4 => ?_)
  obtain rfl : y3 = 2 := e4.trans (by decide)
  refine z_sld 2 hx hb hXs hbl hbA hS (by decide) (Nat.le_of_ble_eq_true rfl) (Nat.le_of_ble_eq_true rfl) dL_law_426 ?_
  refine lv_i2l (v := (xs 2).toInt64) hx hb dL_law_427 rfl ?_
  refine lv_ldc2 (v := 4294967295) hx hb C.2.2.2.1 (C.2.2.2.2.1 _ mKL_27) dL_law_428 ?_
  refine lv_land hx hb dL_law_431 ?_
  refine lv_lor hx hb dL_law_432 ?_
  refine lv_aload_n hx hb dL_law_433 rfl (lv_at hl 0 rfl) ?_
  refine lv_iload_n hx hb dL_law_434 rfl (lv_at hl 3 rfl) ?_
  refine lv_iconst (v := 3) hx hb dL_law_435 (by decide) ?_
  refine lv_iadd hx hb dL_law_436 ?_
  refine lv_topi (fun y5 e6 => ?_)
  obtain rfl : y5 = 3 := e6.trans (by decide)
  refine z_sld 3 hx hb hXs hbl hbA hS (by decide) (Nat.le_of_ble_eq_true rfl) (Nat.le_of_ble_eq_true rfl) dL_law_437 ?_
  refine lv_i2l (v := (xs 3).toInt64) hx hb dL_law_438 rfl ?_
  refine lv_bipush (v := 32) hx hb dL_law_439 (by decide) ?_
  refine lv_lshl (v := ((xs 3).toInt64) <<< ((32 : Int32).toInt64 &&& 63)) hx hb dL_law_441 rfl ?_
  refine lv_aload_n hx hb dL_law_442 rfl (lv_at hl 0 rfl) ?_
  refine lv_iload_n hx hb dL_law_443 rfl (lv_at hl 3 rfl) ?_
  refine lv_iconst (v := 4) hx hb dL_law_444 (by decide) ?_
  refine lv_iadd hx hb dL_law_445 ?_
  refine lv_topi (fun y7 e8 => ?_)
  obtain rfl : y7 = 4 := e8.trans (by decide)
  refine z_sld 4 hx hb hXs hbl hbA hS (by decide) (Nat.le_of_ble_eq_true rfl) (Nat.le_of_ble_eq_true rfl) dL_law_446 ?_
  refine lv_i2l (v := (xs 4).toInt64) hx hb dL_law_447 rfl ?_
  refine lv_ldc2 (v := 4294967295) hx hb C.2.2.2.1 (C.2.2.2.2.1 _ mKL_27) dL_law_448 ?_
  refine lv_land hx hb dL_law_451 ?_
  refine lv_lor hx hb dL_law_452 ?_
  refine z_callVi (As := [.long ((((xs 1).toInt64) <<< ((32 : Int32).toInt64 &&& 63)) ||| (((xs 2).toInt64) &&& 4294967295)), .long ((((xs 3).toInt64) <<< ((32 : Int32).toInt64 &&& 63)) ||| (((xs 4).toInt64) &&& 4294967295))]) C hz hS hA hl (k_X7_share l D cy f o fa fi nu fm co en ke ((((xs 1).toInt64) <<< ((32 : Int32).toInt64 &&& 63)) ||| (((xs 2).toInt64) &&& 4294967295)) ((((xs 3).toInt64) <<< ((32 : Int32).toInt64 &&& 63)) ||| (((xs 4).toInt64) &&& 4294967295)) 0 (-1) 0 ev al ra (fun _ => none) (fun _ => none) (fun _ => 0) px_o px_fa px_fi px_al px_ra px_ev har) zyX7_share mML_44 px_o zl7 rfl rfl (Nat.le_of_ble_eq_true rfl) ⟨Nat.le_of_ble_eq_true rfl, Nat.le_of_ble_eq_true rfl⟩ ⟨Nat.le_of_ble_eq_true rfl, Nat.le_of_ble_eq_true rfl⟩ dL_law_453 (fun r f9 H locs h10 hz hS => ?_)
  obtain ⟨rfl, k11⟩ := h10
  refine lv_aload_n hx hb dL_law_456 rfl (lv_at hl 2 rfl) ?_
  refine lv_aload_n hx hb dL_law_457 rfl (lv_at hl 0 rfl) ?_
  refine lv_iload_n hx hb dL_law_458 rfl (lv_at hl 3 rfl) ?_
  refine lv_iconst (v := 1) hx hb dL_law_459 (by decide) ?_
  refine lv_iadd hx hb dL_law_460 ?_
  refine lv_topi (fun y12 e13 => ?_)
  obtain rfl : y12 = 1 := e13.trans (by decide)
  refine z_sld 1 hx hb hXs hbl hbA hS (by decide) (Nat.le_of_ble_eq_true rfl) (Nat.le_of_ble_eq_true rfl) dL_law_461 ?_
  refine lv_i2l (v := (xs 1).toInt64) hx hb dL_law_462 rfl ?_
  refine lv_bipush (v := 32) hx hb dL_law_463 (by decide) ?_
  refine lv_lshl (v := ((xs 1).toInt64) <<< ((32 : Int32).toInt64 &&& 63)) hx hb dL_law_465 rfl ?_
  refine lv_aload_n hx hb dL_law_466 rfl (lv_at hl 0 rfl) ?_
  refine lv_iload_n hx hb dL_law_467 rfl (lv_at hl 3 rfl) ?_
  refine lv_iconst (v := 2) hx hb dL_law_468 (by decide) ?_
  refine lv_iadd hx hb dL_law_469 ?_
  refine lv_topi (fun y14 e15 => ?_)
  obtain rfl : y14 = 2 := e15.trans (by decide)
  refine z_sld 2 hx hb hXs hbl hbA hS (by decide) (Nat.le_of_ble_eq_true rfl) (Nat.le_of_ble_eq_true rfl) dL_law_470 ?_
  refine lv_i2l (v := (xs 2).toInt64) hx hb dL_law_471 rfl ?_
  refine lv_ldc2 (v := 4294967295) hx hb C.2.2.2.1 (C.2.2.2.2.1 _ mKL_27) dL_law_472 ?_
  refine lv_land hx hb dL_law_475 ?_
  refine lv_lor hx hb dL_law_476 ?_
  refine lv_aload_n hx hb dL_law_477 rfl (lv_at hl 0 rfl) ?_
  refine lv_iload_n hx hb dL_law_478 rfl (lv_at hl 3 rfl) ?_
  refine lv_iconst (v := 3) hx hb dL_law_479 (by decide) ?_
  refine lv_iadd hx hb dL_law_480 ?_
  refine lv_topi (fun y16 e17 => ?_)
  obtain rfl : y16 = 3 := e17.trans (by decide)
  refine z_sld 3 hx hb hXs hbl hbA hS (by decide) (Nat.le_of_ble_eq_true rfl) (Nat.le_of_ble_eq_true rfl) dL_law_481 ?_
  refine lv_i2l (v := (xs 3).toInt64) hx hb dL_law_482 rfl ?_
  refine lv_bipush (v := 32) hx hb dL_law_483 (by decide) ?_
  refine lv_lshl (v := ((xs 3).toInt64) <<< ((32 : Int32).toInt64 &&& 63)) hx hb dL_law_485 rfl ?_
  refine lv_aload_n hx hb dL_law_486 rfl (lv_at hl 0 rfl) ?_
  refine lv_iload_n hx hb dL_law_487 rfl (lv_at hl 3 rfl) ?_
  refine lv_iconst (v := 4) hx hb dL_law_488 (by decide) ?_
  refine lv_iadd hx hb dL_law_489 ?_
  refine lv_topi (fun y18 e19 => ?_)
  obtain rfl : y18 = 4 := e19.trans (by decide)
  refine z_sld 4 hx hb hXs hbl hbA hS (by decide) (Nat.le_of_ble_eq_true rfl) (Nat.le_of_ble_eq_true rfl) dL_law_490 ?_
  refine lv_i2l (v := (xs 4).toInt64) hx hb dL_law_491 rfl ?_
  refine lv_ldc2 (v := 4294967295) hx hb C.2.2.2.1 (C.2.2.2.2.1 _ mKL_27) dL_law_492 ?_
  refine lv_land hx hb dL_law_495 ?_
  refine lv_lor hx hb dL_law_496 ?_
  have a20 : f9 mo = some (.inr (8, [.int 0, .int (-1), .int 0, .ref wev, .int 0, .ref wnb, .int 0, .ref wki, .ref wmy, .ref wce, .ref wiw, .ref wli, .ref wha, .ref wwt, .int 0, .ref wfy, .ref wfk, .int 0, .ref wem, .ref wna, .ref wpl, .ref whs, .long 1, .int 0, .ref wk1, .ref wk2, .ref wk3])) := k11 _ _ pm_mo (Ne.symm (z_nn hn_mo hx_fa)) (Ne.symm (z_nn hn_mo hx_fi)) (Ne.symm (z_nn hn_mo hx_al)) (Ne.symm (z_nn hn_mo hx_ra)) (Ne.symm (z_nn hn_mo hx_ev))
  have a21 : f9 wki = some (.inl (cy 0, 60, .inl (fun _ => 0))) := k11 _ _ pm_wki (Ne.symm (z_nn hn_wki hx_fa)) (Ne.symm (z_nn hn_wki hx_fi)) (Ne.symm (z_nn hn_wki hx_al)) (Ne.symm (z_nn hn_wki hx_ra)) (Ne.symm (z_nn hn_wki hx_ev))
  have a22 : f9 wmy = some (.inl (cy 0, 60, .inl (fun _ => 0))) := k11 _ _ pm_wmy (Ne.symm (z_nn hn_wmy hx_fa)) (Ne.symm (z_nn hn_wmy hx_fi)) (Ne.symm (z_nn hn_wmy hx_al)) (Ne.symm (z_nn hn_wmy hx_ra)) (Ne.symm (z_nn hn_wmy hx_ev))
  have a23 : f9 wce = some (.inl (cy 1, 960, .inr (.inl (fun _ => 0)))) := k11 _ _ pm_wce (Ne.symm (z_nn hn_wce hx_fa)) (Ne.symm (z_nn hn_wce hx_fi)) (Ne.symm (z_nn hn_wce hx_al)) (Ne.symm (z_nn hn_wce hx_ra)) (Ne.symm (z_nn hn_wce hx_ev))
  have a24 : f9 wli = some (.inl (cy 0, 60, .inl (fun _ => 0))) := k11 _ _ pm_wli (Ne.symm (z_nn hn_wli hx_fa)) (Ne.symm (z_nn hn_wli hx_fi)) (Ne.symm (z_nn hn_wli hx_al)) (Ne.symm (z_nn hn_wli hx_ra)) (Ne.symm (z_nn hn_wli hx_ev))
  have a25 : f9 wha = some (.inl (cy 0, 60, .inl (fun _ => 0))) := k11 _ _ pm_wha (Ne.symm (z_nn hn_wha hx_fa)) (Ne.symm (z_nn hn_wha hx_fi)) (Ne.symm (z_nn hn_wha hx_al)) (Ne.symm (z_nn hn_wha hx_ra)) (Ne.symm (z_nn hn_wha hx_ev))
  have a26 : f9 wev = some (.inl (cy 0, 8, .inl (fun _ => 0))) := k11 _ _ pm_wev (Ne.symm (z_nn hn_wev hx_fa)) (Ne.symm (z_nn hn_wev hx_fi)) (Ne.symm (z_nn hn_wev hx_al)) (Ne.symm (z_nn hn_wev hx_ra)) (Ne.symm (z_nn hn_wev hx_ev))
  refine z_callVi (As := [.long ((((xs 1).toInt64) <<< ((32 : Int32).toInt64 &&& 63)) ||| (((xs 2).toInt64) &&& 4294967295)), .long ((((xs 3).toInt64) <<< ((32 : Int32).toInt64 &&& 63)) ||| (((xs 4).toInt64) &&& 4294967295))]) C hz hS hA hl (k_X8_share l D cy f9 mo wev wnb wki wmy wce wiw wli wha wwt wfy wfk wem wna wpl whs wk1 wk2 wk3 ((((xs 1).toInt64) <<< ((32 : Int32).toInt64 &&& 63)) ||| (((xs 2).toInt64) &&& 4294967295)) ((((xs 3).toInt64) <<< ((32 : Int32).toInt64 &&& 63)) ||| (((xs 4).toInt64) &&& 4294967295)) (fun _ => 0) (fun _ => 0) (fun _ => 0) (fun _ => 0) (fun _ => 0) (fun _ => 0) a20 a21 a22 a23 a24 a25 a26 nkm nlh nkl nkh nml nmh) zyX8_share mML_47 a20 zl8 rfl rfl (Nat.le_of_ble_eq_true rfl) ⟨Nat.le_of_ble_eq_true rfl, Nat.le_of_ble_eq_true rfl⟩ ⟨Nat.le_of_ble_eq_true rfl, Nat.le_of_ble_eq_true rfl⟩ dL_law_497 (fun r f27 H locs h28 hz hS => ?_)
  subst h28
  refine lv_icmp_eq (tgt := 1360) hx hb dL_law_500 (by decide) (fun _ => ?_) (fun c29 => absurd rfl c29)
  refine W.widen (k := 200) (n := 20000) (Nat.le_of_ble_eq_true rfl) (Nat.le_of_ble_eq_true rfl) ?_
  exact fin _ _ _ hS (lv_sub hl [0, 3] rfl)
set_option maxHeartbeats 4000000 in
set_option maxRecDepth 100000 in
theorem law_case_7 {p : Program} {l : Launch} {e : Env} {s : State} {m : MethodId} {below : List Frame} {meth : Method} {c : Code} {D : va_G} {cy : Nat → ClassId} {b : Nat} {xs : Nat → Int32} (C : zC D cy p s m #[Value.ref b] meth c RL cL_law 4) (hXs : va_X b 5 xs s s.heap) (hbl : b < s.heap.size) (hbA : ¬ zLA s b) (fin : ∀ (H : Heap) (locs : List Loc) (ls : Array Slot), va_S (zLA s) s.heap H locs → lv_has ls 4 [(0, .ref b), (3, .int 0)] → W p l e room_1 s m #[Value.ref b] below meth c H locs 200 20000 (lw_Z below #[Value.ref b] s) (F0 m 1360 ls [])) {fX f : zM} {o fa fi nu fm co en ke ev al ra kn vq : Nat} {ge : Nat → Option Nat} {ea ma : Nat → Nat} {mo wev wnb wki wmy wce wiw wli wha wwt wfy wfk wem wna wpl whs wk1 wk2 wk3 : Nat} (hXX : zXF cy fX o fa fi nu fm co en ke ev al ra kn vq ge ea ma) (hn_mo : fX mo = none) (hn_wev : fX wev = none) (hn_wnb : fX wnb = none) (hn_wki : fX wki = none) (hn_wmy : fX wmy = none) (hn_wce : fX wce = none) (hn_wiw : fX wiw = none) (hn_wli : fX wli = none) (hn_wha : fX wha = none) (hn_wwt : fX wwt = none) (hn_wfy : fX wfy = none) (hn_wfk : fX wfk = none) (hn_wem : fX wem = none) (hn_wna : fX wna = none) (hn_wpl : fX wpl = none) (hn_whs : fX whs = none) (hn_wk1 : fX wk1 = none) (hn_wk2 : fX wk2 = none) (hn_wk3 : fX wk3 = none) (hXF : zXF cy f o fa fi nu fm co en ke ev al ra kn vq ge ea ma) (hMF : zMF cy f mo wev wnb wki wmy wce wiw wli wha wwt wfy wfk wem wna wpl whs wk1 wk2 wk3) {H : Heap} {locs : List Loc} {ls : Array Slot} (hz : zH D (zLA s) f H) (hS : va_S (zLA s) s.heap H locs) (hl : lv_has ls 4 [(0, .ref b), (1, .ref o), (2, .ref mo), (3, .int 0)]) : W p l e room_1 s m #[Value.ref b] below meth c H locs 100 5000 (lw_Z below #[Value.ref b] s) (F0 m 505 ls []) := by
  have hx := C.1
  have hb := C.2.1
  have hA : ∀ q, s.heap.size ≤ q → zLA s q := fun q h => h
  obtain ⟨px_o, px_fa, px_ev, px_fi, px_al, px_ra, px_nu, px_fm, px_co, px_en, px_ke, har, hG, hE, hM⟩ := hXF
  obtain ⟨pm_mo, pm_wev, pm_wnb, pm_wki, pm_wmy, pm_wce, pm_wiw, pm_wli, pm_wha, pm_wwt, pm_wfy, pm_wfk, pm_wem, pm_wna, pm_wpl, pm_whs, pm_wk1, pm_wk2, pm_wk3, nkm, nlh, nkl, nkh, nml, nmh, nc1, nc2, nc3, nw1, nw2, nw3, nw4⟩ := hMF
  obtain ⟨hx_o, hx_fa, hx_ev, hx_fi, hx_al, hx_ra, hx_nu, hx_fm, hx_co, hx_en, hx_ke, _, _, hxE, hxM⟩ := hXX
  refine lv_aload_n hx hb dL_law_505 rfl (lv_at hl 1 rfl) ?_
  refine lv_aload_n hx hb dL_law_506 rfl (lv_at hl 0 rfl) ?_
  refine lv_iload_n hx hb dL_law_507 rfl (lv_at hl 3 rfl) ?_
  refine lv_iconst (v := 1) hx hb dL_law_508 (by decide) ?_
  refine lv_iadd hx hb dL_law_509 ?_
  refine lv_topi (fun y1 e2 => ?_)
  obtain rfl : y1 = 1 := e2.trans (by decide)
  refine z_sld 1 hx hb hXs hbl hbA hS (by decide) (Nat.le_of_ble_eq_true rfl) (Nat.le_of_ble_eq_true rfl) dL_law_510 ?_
  refine lv_aload_n hx hb dL_law_511 rfl (lv_at hl 0 rfl) ?_
  refine lv_iload_n hx hb dL_law_512 rfl (lv_at hl 3 rfl) ?_
  refine lv_iconst (v := 2) hx hb dL_law_513 (by decide) ?_
  refine lv_iadd hx hb dL_law_514 ?_
  refine lv_topi (fun y3 e4 => ?_)
  obtain rfl : y3 = 2 := e4.trans (by decide)
  refine z_sld 2 hx hb hXs hbl hbA hS (by decide) (Nat.le_of_ble_eq_true rfl) (Nat.le_of_ble_eq_true rfl) dL_law_515 ?_
  refine z_callVi (As := [.int (xs 1), .int (xs 2)]) C hz hS hA hl (k_X7_pair l D cy f o fa fi nu fm co en ke (xs 1) (xs 2) 0 (-1) 0 ev al ra (fun _ => 0) px_o px_fa px_fi px_ev ) zyX7_pair mML_48 px_o zl7 rfl rfl (Nat.le_of_ble_eq_true rfl) ⟨Nat.le_of_ble_eq_true rfl, Nat.le_of_ble_eq_true rfl⟩ ⟨Nat.le_of_ble_eq_true rfl, Nat.le_of_ble_eq_true rfl⟩ dL_law_516 (fun r f5 H locs h6 hz hS => ?_)
  obtain ⟨rfl, k7⟩ := h6
  refine lv_aload_n hx hb dL_law_519 rfl (lv_at hl 2 rfl) ?_
  refine lv_aload_n hx hb dL_law_520 rfl (lv_at hl 0 rfl) ?_
  refine lv_iload_n hx hb dL_law_521 rfl (lv_at hl 3 rfl) ?_
  refine lv_iconst (v := 1) hx hb dL_law_522 (by decide) ?_
  refine lv_iadd hx hb dL_law_523 ?_
  refine lv_topi (fun y8 e9 => ?_)
  obtain rfl : y8 = 1 := e9.trans (by decide)
  refine z_sld 1 hx hb hXs hbl hbA hS (by decide) (Nat.le_of_ble_eq_true rfl) (Nat.le_of_ble_eq_true rfl) dL_law_524 ?_
  refine lv_aload_n hx hb dL_law_525 rfl (lv_at hl 0 rfl) ?_
  refine lv_iload_n hx hb dL_law_526 rfl (lv_at hl 3 rfl) ?_
  refine lv_iconst (v := 2) hx hb dL_law_527 (by decide) ?_
  refine lv_iadd hx hb dL_law_528 ?_
  refine lv_topi (fun y10 e11 => ?_)
  obtain rfl : y10 = 2 := e11.trans (by decide)
  refine z_sld 2 hx hb hXs hbl hbA hS (by decide) (Nat.le_of_ble_eq_true rfl) (Nat.le_of_ble_eq_true rfl) dL_law_529 ?_
  have a12 : f5 mo = some (.inr (8, [.int 0, .int (-1), .int 0, .ref wev, .int 0, .ref wnb, .int 0, .ref wki, .ref wmy, .ref wce, .ref wiw, .ref wli, .ref wha, .ref wwt, .int 0, .ref wfy, .ref wfk, .int 0, .ref wem, .ref wna, .ref wpl, .ref whs, .long 1, .int 0, .ref wk1, .ref wk2, .ref wk3])) := k7 _ _ pm_mo (Ne.symm (z_nn hn_mo hx_fa)) (Ne.symm (z_nn hn_mo hx_ev))
  have a13 : f5 wev = some (.inl (cy 0, 8, .inl (fun _ => 0))) := k7 _ _ pm_wev (Ne.symm (z_nn hn_wev hx_fa)) (Ne.symm (z_nn hn_wev hx_ev))
  refine z_callVi (As := [.int (xs 1), .int (xs 2)]) C hz hS hA hl (k_X8_pair l D cy f5 mo wev wnb wki wmy wce wiw wli wha wwt wfy wfk wem wna wpl whs wk1 wk2 wk3 (xs 1) (xs 2) (fun _ => 0) a12 a13 ) zyX8_pair mML_51 a12 zl8 rfl rfl (Nat.le_of_ble_eq_true rfl) ⟨Nat.le_of_ble_eq_true rfl, Nat.le_of_ble_eq_true rfl⟩ ⟨Nat.le_of_ble_eq_true rfl, Nat.le_of_ble_eq_true rfl⟩ dL_law_530 (fun r f14 H locs h15 hz hS => ?_)
  subst h15
  refine lv_icmp_eq (tgt := 1360) hx hb dL_law_533 (by decide) (fun _ => ?_) (fun c16 => absurd rfl c16)
  refine W.widen (k := 200) (n := 20000) (Nat.le_of_ble_eq_true rfl) (Nat.le_of_ble_eq_true rfl) ?_
  exact fin _ _ _ hS (lv_sub hl [0, 3] rfl)
set_option maxHeartbeats 4000000 in
set_option maxRecDepth 100000 in
theorem law_case_8 {p : Program} {l : Launch} {e : Env} {s : State} {m : MethodId} {below : List Frame} {meth : Method} {c : Code} {D : va_G} {cy : Nat → ClassId} {b : Nat} {xs : Nat → Int32} (C : zC D cy p s m #[Value.ref b] meth c RL cL_law 4) (hXs : va_X b 5 xs s s.heap) (hbl : b < s.heap.size) (hbA : ¬ zLA s b) (fin : ∀ (H : Heap) (locs : List Loc) (ls : Array Slot), va_S (zLA s) s.heap H locs → lv_has ls 4 [(0, .ref b), (3, .int 0)] → W p l e room_1 s m #[Value.ref b] below meth c H locs 200 20000 (lw_Z below #[Value.ref b] s) (F0 m 1360 ls [])) {fX f : zM} {o fa fi nu fm co en ke ev al ra kn vq : Nat} {ge : Nat → Option Nat} {ea ma : Nat → Nat} {mo wev wnb wki wmy wce wiw wli wha wwt wfy wfk wem wna wpl whs wk1 wk2 wk3 : Nat} (hXX : zXF cy fX o fa fi nu fm co en ke ev al ra kn vq ge ea ma) (hn_mo : fX mo = none) (hn_wev : fX wev = none) (hn_wnb : fX wnb = none) (hn_wki : fX wki = none) (hn_wmy : fX wmy = none) (hn_wce : fX wce = none) (hn_wiw : fX wiw = none) (hn_wli : fX wli = none) (hn_wha : fX wha = none) (hn_wwt : fX wwt = none) (hn_wfy : fX wfy = none) (hn_wfk : fX wfk = none) (hn_wem : fX wem = none) (hn_wna : fX wna = none) (hn_wpl : fX wpl = none) (hn_whs : fX whs = none) (hn_wk1 : fX wk1 = none) (hn_wk2 : fX wk2 = none) (hn_wk3 : fX wk3 = none) (hXF : zXF cy f o fa fi nu fm co en ke ev al ra kn vq ge ea ma) (hMF : zMF cy f mo wev wnb wki wmy wce wiw wli wha wwt wfy wfk wem wna wpl whs wk1 wk2 wk3) {H : Heap} {locs : List Loc} {ls : Array Slot} (hz : zH D (zLA s) f H) (hS : va_S (zLA s) s.heap H locs) (hl : lv_has ls 4 [(0, .ref b), (1, .ref o), (2, .ref mo), (3, .int 0)]) : W p l e room_1 s m #[Value.ref b] below meth c H locs 100 5000 (lw_Z below #[Value.ref b] s) (F0 m 538 ls []) := by
  have hx := C.1
  have hb := C.2.1
  have hA : ∀ q, s.heap.size ≤ q → zLA s q := fun q h => h
  obtain ⟨px_o, px_fa, px_ev, px_fi, px_al, px_ra, px_nu, px_fm, px_co, px_en, px_ke, har, hG, hE, hM⟩ := hXF
  obtain ⟨pm_mo, pm_wev, pm_wnb, pm_wki, pm_wmy, pm_wce, pm_wiw, pm_wli, pm_wha, pm_wwt, pm_wfy, pm_wfk, pm_wem, pm_wna, pm_wpl, pm_whs, pm_wk1, pm_wk2, pm_wk3, nkm, nlh, nkl, nkh, nml, nmh, nc1, nc2, nc3, nw1, nw2, nw3, nw4⟩ := hMF
  obtain ⟨hx_o, hx_fa, hx_ev, hx_fi, hx_al, hx_ra, hx_nu, hx_fm, hx_co, hx_en, hx_ke, _, _, hxE, hxM⟩ := hXX
  refine lv_aload_n hx hb dL_law_538 rfl (lv_at hl 1 rfl) ?_
  refine lv_aload_n hx hb dL_law_539 rfl (lv_at hl 0 rfl) ?_
  refine lv_iload_n hx hb dL_law_540 rfl (lv_at hl 3 rfl) ?_
  refine lv_iconst (v := 1) hx hb dL_law_541 (by decide) ?_
  refine lv_iadd hx hb dL_law_542 ?_
  refine lv_topi (fun y1 e2 => ?_)
  obtain rfl : y1 = 1 := e2.trans (by decide)
  refine z_sld 1 hx hb hXs hbl hbA hS (by decide) (Nat.le_of_ble_eq_true rfl) (Nat.le_of_ble_eq_true rfl) dL_law_543 ?_
  refine lv_aload_n hx hb dL_law_544 rfl (lv_at hl 0 rfl) ?_
  refine lv_iload_n hx hb dL_law_545 rfl (lv_at hl 3 rfl) ?_
  refine lv_iconst (v := 2) hx hb dL_law_546 (by decide) ?_
  refine lv_iadd hx hb dL_law_547 ?_
  refine lv_topi (fun y3 e4 => ?_)
  obtain rfl : y3 = 2 := e4.trans (by decide)
  refine z_sld 2 hx hb hXs hbl hbA hS (by decide) (Nat.le_of_ble_eq_true rfl) (Nat.le_of_ble_eq_true rfl) dL_law_548 ?_
  refine z_callVi (As := [.int (xs 1), .int (xs 2)]) C hz hS hA hl (k_X7_row l D cy f o fa fi nu fm co en ke (xs 1) (xs 2) 0 (-1) 0 ev al ra (fun _ => none) (fun _ => none) (fun _ => 0) px_o px_fa px_fi px_al px_ra px_ev har) zyX7_row mML_52 px_o zl7 rfl rfl (Nat.le_of_ble_eq_true rfl) ⟨Nat.le_of_ble_eq_true rfl, Nat.le_of_ble_eq_true rfl⟩ ⟨Nat.le_of_ble_eq_true rfl, Nat.le_of_ble_eq_true rfl⟩ dL_law_549 (fun r f5 H locs h6 hz hS => ?_)
  obtain ⟨rfl, k7⟩ := h6
  refine lv_aload_n hx hb dL_law_552 rfl (lv_at hl 2 rfl) ?_
  refine lv_aload_n hx hb dL_law_553 rfl (lv_at hl 0 rfl) ?_
  refine lv_iload_n hx hb dL_law_554 rfl (lv_at hl 3 rfl) ?_
  refine lv_iconst (v := 1) hx hb dL_law_555 (by decide) ?_
  refine lv_iadd hx hb dL_law_556 ?_
  refine lv_topi (fun y8 e9 => ?_)
  obtain rfl : y8 = 1 := e9.trans (by decide)
  refine z_sld 1 hx hb hXs hbl hbA hS (by decide) (Nat.le_of_ble_eq_true rfl) (Nat.le_of_ble_eq_true rfl) dL_law_557 ?_
  refine lv_aload_n hx hb dL_law_558 rfl (lv_at hl 0 rfl) ?_
  refine lv_iload_n hx hb dL_law_559 rfl (lv_at hl 3 rfl) ?_
  refine lv_iconst (v := 2) hx hb dL_law_560 (by decide) ?_
  refine lv_iadd hx hb dL_law_561 ?_
  refine lv_topi (fun y10 e11 => ?_)
  obtain rfl : y10 = 2 := e11.trans (by decide)
  refine z_sld 2 hx hb hXs hbl hbA hS (by decide) (Nat.le_of_ble_eq_true rfl) (Nat.le_of_ble_eq_true rfl) dL_law_562 ?_
  have a12 : f5 mo = some (.inr (8, [.int 0, .int (-1), .int 0, .ref wev, .int 0, .ref wnb, .int 0, .ref wki, .ref wmy, .ref wce, .ref wiw, .ref wli, .ref wha, .ref wwt, .int 0, .ref wfy, .ref wfk, .int 0, .ref wem, .ref wna, .ref wpl, .ref whs, .long 1, .int 0, .ref wk1, .ref wk2, .ref wk3])) := k7 _ _ pm_mo (Ne.symm (z_nn hn_mo hx_fa)) (Ne.symm (z_nn hn_mo hx_fi)) (Ne.symm (z_nn hn_mo hx_al)) (Ne.symm (z_nn hn_mo hx_ra)) (Ne.symm (z_nn hn_mo hx_ev))
  have a13 : f5 wki = some (.inl (cy 0, 60, .inl (fun _ => 0))) := k7 _ _ pm_wki (Ne.symm (z_nn hn_wki hx_fa)) (Ne.symm (z_nn hn_wki hx_fi)) (Ne.symm (z_nn hn_wki hx_al)) (Ne.symm (z_nn hn_wki hx_ra)) (Ne.symm (z_nn hn_wki hx_ev))
  have a14 : f5 wmy = some (.inl (cy 0, 60, .inl (fun _ => 0))) := k7 _ _ pm_wmy (Ne.symm (z_nn hn_wmy hx_fa)) (Ne.symm (z_nn hn_wmy hx_fi)) (Ne.symm (z_nn hn_wmy hx_al)) (Ne.symm (z_nn hn_wmy hx_ra)) (Ne.symm (z_nn hn_wmy hx_ev))
  have a15 : f5 wce = some (.inl (cy 1, 960, .inr (.inl (fun _ => 0)))) := k7 _ _ pm_wce (Ne.symm (z_nn hn_wce hx_fa)) (Ne.symm (z_nn hn_wce hx_fi)) (Ne.symm (z_nn hn_wce hx_al)) (Ne.symm (z_nn hn_wce hx_ra)) (Ne.symm (z_nn hn_wce hx_ev))
  have a16 : f5 wli = some (.inl (cy 0, 60, .inl (fun _ => 0))) := k7 _ _ pm_wli (Ne.symm (z_nn hn_wli hx_fa)) (Ne.symm (z_nn hn_wli hx_fi)) (Ne.symm (z_nn hn_wli hx_al)) (Ne.symm (z_nn hn_wli hx_ra)) (Ne.symm (z_nn hn_wli hx_ev))
  have a17 : f5 wha = some (.inl (cy 0, 60, .inl (fun _ => 0))) := k7 _ _ pm_wha (Ne.symm (z_nn hn_wha hx_fa)) (Ne.symm (z_nn hn_wha hx_fi)) (Ne.symm (z_nn hn_wha hx_al)) (Ne.symm (z_nn hn_wha hx_ra)) (Ne.symm (z_nn hn_wha hx_ev))
  have a18 : f5 wev = some (.inl (cy 0, 8, .inl (fun _ => 0))) := k7 _ _ pm_wev (Ne.symm (z_nn hn_wev hx_fa)) (Ne.symm (z_nn hn_wev hx_fi)) (Ne.symm (z_nn hn_wev hx_al)) (Ne.symm (z_nn hn_wev hx_ra)) (Ne.symm (z_nn hn_wev hx_ev))
  refine z_callVi (As := [.int (xs 1), .int (xs 2)]) C hz hS hA hl (k_X8_row l D cy f5 mo wev wnb wki wmy wce wiw wli wha wwt wfy wfk wem wna wpl whs wk1 wk2 wk3 (xs 1) (xs 2) (fun _ => 0) (fun _ => 0) (fun _ => 0) (fun _ => 0) (fun _ => 0) (fun _ => 0) a12 a13 a14 a15 a16 a17 a18 nkm nlh nkl nkh nml nmh) zyX8_row mML_55 a12 zl8 rfl rfl (Nat.le_of_ble_eq_true rfl) ⟨Nat.le_of_ble_eq_true rfl, Nat.le_of_ble_eq_true rfl⟩ ⟨Nat.le_of_ble_eq_true rfl, Nat.le_of_ble_eq_true rfl⟩ dL_law_563 (fun r f19 H locs h20 hz hS => ?_)
  subst h20
  refine lv_icmp_eq (tgt := 1360) hx hb dL_law_566 (by decide) (fun _ => ?_) (fun c21 => absurd rfl c21)
  refine W.widen (k := 200) (n := 20000) (Nat.le_of_ble_eq_true rfl) (Nat.le_of_ble_eq_true rfl) ?_
  exact fin _ _ _ hS (lv_sub hl [0, 3] rfl)
set_option maxHeartbeats 4000000 in
set_option maxRecDepth 100000 in
theorem law_case_9 {p : Program} {l : Launch} {e : Env} {s : State} {m : MethodId} {below : List Frame} {meth : Method} {c : Code} {D : va_G} {cy : Nat → ClassId} {b : Nat} {xs : Nat → Int32} (C : zC D cy p s m #[Value.ref b] meth c RL cL_law 4) (hXs : va_X b 5 xs s s.heap) (hbl : b < s.heap.size) (hbA : ¬ zLA s b) (fin : ∀ (H : Heap) (locs : List Loc) (ls : Array Slot), va_S (zLA s) s.heap H locs → lv_has ls 4 [(0, .ref b), (3, .int 0)] → W p l e room_1 s m #[Value.ref b] below meth c H locs 200 20000 (lw_Z below #[Value.ref b] s) (F0 m 1360 ls [])) {fX f : zM} {o fa fi nu fm co en ke ev al ra kn vq : Nat} {ge : Nat → Option Nat} {ea ma : Nat → Nat} {mo wev wnb wki wmy wce wiw wli wha wwt wfy wfk wem wna wpl whs wk1 wk2 wk3 : Nat} (hXX : zXF cy fX o fa fi nu fm co en ke ev al ra kn vq ge ea ma) (hn_mo : fX mo = none) (hn_wev : fX wev = none) (hn_wnb : fX wnb = none) (hn_wki : fX wki = none) (hn_wmy : fX wmy = none) (hn_wce : fX wce = none) (hn_wiw : fX wiw = none) (hn_wli : fX wli = none) (hn_wha : fX wha = none) (hn_wwt : fX wwt = none) (hn_wfy : fX wfy = none) (hn_wfk : fX wfk = none) (hn_wem : fX wem = none) (hn_wna : fX wna = none) (hn_wpl : fX wpl = none) (hn_whs : fX whs = none) (hn_wk1 : fX wk1 = none) (hn_wk2 : fX wk2 = none) (hn_wk3 : fX wk3 = none) (hXF : zXF cy f o fa fi nu fm co en ke ev al ra kn vq ge ea ma) (hMF : zMF cy f mo wev wnb wki wmy wce wiw wli wha wwt wfy wfk wem wna wpl whs wk1 wk2 wk3) {H : Heap} {locs : List Loc} {ls : Array Slot} (hz : zH D (zLA s) f H) (hS : va_S (zLA s) s.heap H locs) (hl : lv_has ls 4 [(0, .ref b), (1, .ref o), (2, .ref mo), (3, .int 0)]) : W p l e room_1 s m #[Value.ref b] below meth c H locs 100 5000 (lw_Z below #[Value.ref b] s) (F0 m 571 ls []) := by
  have hx := C.1
  have hb := C.2.1
  have hA : ∀ q, s.heap.size ≤ q → zLA s q := fun q h => h
  obtain ⟨px_o, px_fa, px_ev, px_fi, px_al, px_ra, px_nu, px_fm, px_co, px_en, px_ke, har, hG, hE, hM⟩ := hXF
  obtain ⟨pm_mo, pm_wev, pm_wnb, pm_wki, pm_wmy, pm_wce, pm_wiw, pm_wli, pm_wha, pm_wwt, pm_wfy, pm_wfk, pm_wem, pm_wna, pm_wpl, pm_whs, pm_wk1, pm_wk2, pm_wk3, nkm, nlh, nkl, nkh, nml, nmh, nc1, nc2, nc3, nw1, nw2, nw3, nw4⟩ := hMF
  obtain ⟨hx_o, hx_fa, hx_ev, hx_fi, hx_al, hx_ra, hx_nu, hx_fm, hx_co, hx_en, hx_ke, _, _, hxE, hxM⟩ := hXX
  refine lv_aload_n hx hb dL_law_571 rfl (lv_at hl 1 rfl) ?_
  refine lv_aload_n hx hb dL_law_572 rfl (lv_at hl 0 rfl) ?_
  refine lv_iload_n hx hb dL_law_573 rfl (lv_at hl 3 rfl) ?_
  refine lv_iconst (v := 1) hx hb dL_law_574 (by decide) ?_
  refine lv_iadd hx hb dL_law_575 ?_
  refine lv_topi (fun y1 e2 => ?_)
  obtain rfl : y1 = 1 := e2.trans (by decide)
  refine z_sld 1 hx hb hXs hbl hbA hS (by decide) (Nat.le_of_ble_eq_true rfl) (Nat.le_of_ble_eq_true rfl) dL_law_576 ?_
  refine lv_if_eq (tgt := 584) hx hb dL_law_577 (by decide) (fun c3 => ?_) (fun c3 => ?_)
  · refine lv_iconst (v := 0) hx hb dL_law_584 (by decide) ?_
    refine lv_aload_n hx hb dL_law_585 rfl (lv_at hl 0 rfl) ?_
    refine lv_iload_n hx hb dL_law_586 rfl (lv_at hl 3 rfl) ?_
    refine lv_iconst (v := 2) hx hb dL_law_587 (by decide) ?_
    refine lv_iadd hx hb dL_law_588 ?_
    refine lv_topi (fun y4 e5 => ?_)
    obtain rfl : y4 = 2 := e5.trans (by decide)
    refine z_sld 2 hx hb hXs hbl hbA hS (by decide) (Nat.le_of_ble_eq_true rfl) (Nat.le_of_ble_eq_true rfl) dL_law_589 ?_
    refine z_callVi (As := [.int 0, .int (xs 2)]) C hz hS hA hl (k_X7_shelf l D cy f o fa fi nu fm co en ke 0 (xs 2) 0 (-1) 0 ev al ra (fun _ => none) (fun _ => none) (fun _ => 0) px_o px_fa px_fi px_al px_ra px_ev har (by decide)) zyX7_shelf mML_56 px_o zl7 rfl rfl (Nat.le_of_ble_eq_true rfl) ⟨Nat.le_of_ble_eq_true rfl, Nat.le_of_ble_eq_true rfl⟩ ⟨Nat.le_of_ble_eq_true rfl, Nat.le_of_ble_eq_true rfl⟩ dL_law_590 (fun r f6 H locs h7 hz hS => ?_)
    obtain ⟨rfl, k8⟩ := h7
    refine lv_aload_n hx hb dL_law_593 rfl (lv_at hl 2 rfl) ?_
    refine lv_aload_n hx hb dL_law_594 rfl (lv_at hl 0 rfl) ?_
    refine lv_iload_n hx hb dL_law_595 rfl (lv_at hl 3 rfl) ?_
    refine lv_iconst (v := 1) hx hb dL_law_596 (by decide) ?_
    refine lv_iadd hx hb dL_law_597 ?_
    refine lv_topi (fun y9 e10 => ?_)
    obtain rfl : y9 = 1 := e10.trans (by decide)
    refine z_sld 1 hx hb hXs hbl hbA hS (by decide) (Nat.le_of_ble_eq_true rfl) (Nat.le_of_ble_eq_true rfl) dL_law_598 ?_
    refine lv_if_eq (tgt := 606) hx hb dL_law_599 (by decide) (fun c12 => ?_) (fun c12 => ?_)
    rotate_left
    · exact absurd c3 c12
    refine lv_iconst (v := 0) hx hb dL_law_606 (by decide) ?_
    refine lv_aload_n hx hb dL_law_607 rfl (lv_at hl 0 rfl) ?_
    refine lv_iload_n hx hb dL_law_608 rfl (lv_at hl 3 rfl) ?_
    refine lv_iconst (v := 2) hx hb dL_law_609 (by decide) ?_
    refine lv_iadd hx hb dL_law_610 ?_
    refine lv_topi (fun y13 e14 => ?_)
    obtain rfl : y13 = 2 := e14.trans (by decide)
    refine z_sld 2 hx hb hXs hbl hbA hS (by decide) (Nat.le_of_ble_eq_true rfl) (Nat.le_of_ble_eq_true rfl) dL_law_611 ?_
    have a15 : f6 mo = some (.inr (8, [.int 0, .int (-1), .int 0, .ref wev, .int 0, .ref wnb, .int 0, .ref wki, .ref wmy, .ref wce, .ref wiw, .ref wli, .ref wha, .ref wwt, .int 0, .ref wfy, .ref wfk, .int 0, .ref wem, .ref wna, .ref wpl, .ref whs, .long 1, .int 0, .ref wk1, .ref wk2, .ref wk3])) := k8 _ _ pm_mo (Ne.symm (z_nn hn_mo hx_fa)) (Ne.symm (z_nn hn_mo hx_fi)) (Ne.symm (z_nn hn_mo hx_al)) (Ne.symm (z_nn hn_mo hx_ra)) (Ne.symm (z_nn hn_mo hx_ev))
    have a16 : f6 wki = some (.inl (cy 0, 60, .inl (fun _ => 0))) := k8 _ _ pm_wki (Ne.symm (z_nn hn_wki hx_fa)) (Ne.symm (z_nn hn_wki hx_fi)) (Ne.symm (z_nn hn_wki hx_al)) (Ne.symm (z_nn hn_wki hx_ra)) (Ne.symm (z_nn hn_wki hx_ev))
    have a17 : f6 wmy = some (.inl (cy 0, 60, .inl (fun _ => 0))) := k8 _ _ pm_wmy (Ne.symm (z_nn hn_wmy hx_fa)) (Ne.symm (z_nn hn_wmy hx_fi)) (Ne.symm (z_nn hn_wmy hx_al)) (Ne.symm (z_nn hn_wmy hx_ra)) (Ne.symm (z_nn hn_wmy hx_ev))
    have a18 : f6 wce = some (.inl (cy 1, 960, .inr (.inl (fun _ => 0)))) := k8 _ _ pm_wce (Ne.symm (z_nn hn_wce hx_fa)) (Ne.symm (z_nn hn_wce hx_fi)) (Ne.symm (z_nn hn_wce hx_al)) (Ne.symm (z_nn hn_wce hx_ra)) (Ne.symm (z_nn hn_wce hx_ev))
    have a19 : f6 wli = some (.inl (cy 0, 60, .inl (fun _ => 0))) := k8 _ _ pm_wli (Ne.symm (z_nn hn_wli hx_fa)) (Ne.symm (z_nn hn_wli hx_fi)) (Ne.symm (z_nn hn_wli hx_al)) (Ne.symm (z_nn hn_wli hx_ra)) (Ne.symm (z_nn hn_wli hx_ev))
    have a20 : f6 wha = some (.inl (cy 0, 60, .inl (fun _ => 0))) := k8 _ _ pm_wha (Ne.symm (z_nn hn_wha hx_fa)) (Ne.symm (z_nn hn_wha hx_fi)) (Ne.symm (z_nn hn_wha hx_al)) (Ne.symm (z_nn hn_wha hx_ra)) (Ne.symm (z_nn hn_wha hx_ev))
    have a21 : f6 wev = some (.inl (cy 0, 8, .inl (fun _ => 0))) := k8 _ _ pm_wev (Ne.symm (z_nn hn_wev hx_fa)) (Ne.symm (z_nn hn_wev hx_fi)) (Ne.symm (z_nn hn_wev hx_al)) (Ne.symm (z_nn hn_wev hx_ra)) (Ne.symm (z_nn hn_wev hx_ev))
    have a22 : f6 wiw = some (.inl (cy 2, 60, .inl (fun _ => 0))) := k8 _ _ pm_wiw (Ne.symm (z_nn hn_wiw hx_fa)) (Ne.symm (z_nn hn_wiw hx_fi)) (Ne.symm (z_nn hn_wiw hx_al)) (Ne.symm (z_nn hn_wiw hx_ra)) (Ne.symm (z_nn hn_wiw hx_ev))
    refine z_callVi (As := [.int 0, .int (xs 2)]) C hz hS hA hl (k_X8_shelf l D cy f6 mo wev wnb wki wmy wce wiw wli wha wwt wfy wfk wem wna wpl whs wk1 wk2 wk3 0 (xs 2) (fun _ => 0) (fun _ => 0) (fun _ => 0) (fun _ => 0) (fun _ => 0) (fun _ => 0) (fun _ => 0) a15 a16 a17 a18 a19 a20 a21 a22 nkm nlh nkl nkh nml nmh (by decide) nw1 nw2 nw3 nw4) zyX8_shelf mML_60 a15 zl8 rfl rfl (Nat.le_of_ble_eq_true rfl) ⟨Nat.le_of_ble_eq_true rfl, Nat.le_of_ble_eq_true rfl⟩ ⟨Nat.le_of_ble_eq_true rfl, Nat.le_of_ble_eq_true rfl⟩ dL_law_612 (fun r f23 H locs h24 hz hS => ?_)
    subst h24
    refine lv_icmp_eq (tgt := 1360) hx hb dL_law_615 (by decide) (fun _ => ?_) (fun c25 => absurd rfl c25)
    refine W.widen (k := 200) (n := 20000) (Nat.le_of_ble_eq_true rfl) (Nat.le_of_ble_eq_true rfl) ?_
    exact fin _ _ _ hS (lv_sub hl [0, 3] rfl)
  · refine lv_iconst (v := 1) hx hb dL_law_580 (by decide) ?_
    refine lv_goto (tgt := 585) hx hb dL_law_581 (by decide) ?_
    refine lv_aload_n hx hb dL_law_585 rfl (lv_at hl 0 rfl) ?_
    refine lv_iload_n hx hb dL_law_586 rfl (lv_at hl 3 rfl) ?_
    refine lv_iconst (v := 2) hx hb dL_law_587 (by decide) ?_
    refine lv_iadd hx hb dL_law_588 ?_
    refine lv_topi (fun y26 e27 => ?_)
    obtain rfl : y26 = 2 := e27.trans (by decide)
    refine z_sld 2 hx hb hXs hbl hbA hS (by decide) (Nat.le_of_ble_eq_true rfl) (Nat.le_of_ble_eq_true rfl) dL_law_589 ?_
    refine z_callVi (As := [.int 1, .int (xs 2)]) C hz hS hA hl (k_X7_shelf l D cy f o fa fi nu fm co en ke 1 (xs 2) 0 (-1) 0 ev al ra (fun _ => none) (fun _ => none) (fun _ => 0) px_o px_fa px_fi px_al px_ra px_ev har (by decide)) zyX7_shelf mML_56 px_o zl7 rfl rfl (Nat.le_of_ble_eq_true rfl) ⟨Nat.le_of_ble_eq_true rfl, Nat.le_of_ble_eq_true rfl⟩ ⟨Nat.le_of_ble_eq_true rfl, Nat.le_of_ble_eq_true rfl⟩ dL_law_590 (fun r f28 H locs h29 hz hS => ?_)
    obtain ⟨rfl, k30⟩ := h29
    refine lv_aload_n hx hb dL_law_593 rfl (lv_at hl 2 rfl) ?_
    refine lv_aload_n hx hb dL_law_594 rfl (lv_at hl 0 rfl) ?_
    refine lv_iload_n hx hb dL_law_595 rfl (lv_at hl 3 rfl) ?_
    refine lv_iconst (v := 1) hx hb dL_law_596 (by decide) ?_
    refine lv_iadd hx hb dL_law_597 ?_
    refine lv_topi (fun y31 e32 => ?_)
    obtain rfl : y31 = 1 := e32.trans (by decide)
    refine z_sld 1 hx hb hXs hbl hbA hS (by decide) (Nat.le_of_ble_eq_true rfl) (Nat.le_of_ble_eq_true rfl) dL_law_598 ?_
    refine lv_if_eq (tgt := 606) hx hb dL_law_599 (by decide) (fun c34 => ?_) (fun c34 => ?_)
    · exact absurd c34 c3
    refine lv_iconst (v := 1) hx hb dL_law_602 (by decide) ?_
    refine lv_goto (tgt := 607) hx hb dL_law_603 (by decide) ?_
    refine lv_aload_n hx hb dL_law_607 rfl (lv_at hl 0 rfl) ?_
    refine lv_iload_n hx hb dL_law_608 rfl (lv_at hl 3 rfl) ?_
    refine lv_iconst (v := 2) hx hb dL_law_609 (by decide) ?_
    refine lv_iadd hx hb dL_law_610 ?_
    refine lv_topi (fun y35 e36 => ?_)
    obtain rfl : y35 = 2 := e36.trans (by decide)
    refine z_sld 2 hx hb hXs hbl hbA hS (by decide) (Nat.le_of_ble_eq_true rfl) (Nat.le_of_ble_eq_true rfl) dL_law_611 ?_
    have a37 : f28 mo = some (.inr (8, [.int 0, .int (-1), .int 0, .ref wev, .int 0, .ref wnb, .int 0, .ref wki, .ref wmy, .ref wce, .ref wiw, .ref wli, .ref wha, .ref wwt, .int 0, .ref wfy, .ref wfk, .int 0, .ref wem, .ref wna, .ref wpl, .ref whs, .long 1, .int 0, .ref wk1, .ref wk2, .ref wk3])) := k30 _ _ pm_mo (Ne.symm (z_nn hn_mo hx_fa)) (Ne.symm (z_nn hn_mo hx_fi)) (Ne.symm (z_nn hn_mo hx_al)) (Ne.symm (z_nn hn_mo hx_ra)) (Ne.symm (z_nn hn_mo hx_ev))
    have a38 : f28 wki = some (.inl (cy 0, 60, .inl (fun _ => 0))) := k30 _ _ pm_wki (Ne.symm (z_nn hn_wki hx_fa)) (Ne.symm (z_nn hn_wki hx_fi)) (Ne.symm (z_nn hn_wki hx_al)) (Ne.symm (z_nn hn_wki hx_ra)) (Ne.symm (z_nn hn_wki hx_ev))
    have a39 : f28 wmy = some (.inl (cy 0, 60, .inl (fun _ => 0))) := k30 _ _ pm_wmy (Ne.symm (z_nn hn_wmy hx_fa)) (Ne.symm (z_nn hn_wmy hx_fi)) (Ne.symm (z_nn hn_wmy hx_al)) (Ne.symm (z_nn hn_wmy hx_ra)) (Ne.symm (z_nn hn_wmy hx_ev))
    have a40 : f28 wce = some (.inl (cy 1, 960, .inr (.inl (fun _ => 0)))) := k30 _ _ pm_wce (Ne.symm (z_nn hn_wce hx_fa)) (Ne.symm (z_nn hn_wce hx_fi)) (Ne.symm (z_nn hn_wce hx_al)) (Ne.symm (z_nn hn_wce hx_ra)) (Ne.symm (z_nn hn_wce hx_ev))
    have a41 : f28 wli = some (.inl (cy 0, 60, .inl (fun _ => 0))) := k30 _ _ pm_wli (Ne.symm (z_nn hn_wli hx_fa)) (Ne.symm (z_nn hn_wli hx_fi)) (Ne.symm (z_nn hn_wli hx_al)) (Ne.symm (z_nn hn_wli hx_ra)) (Ne.symm (z_nn hn_wli hx_ev))
    have a42 : f28 wha = some (.inl (cy 0, 60, .inl (fun _ => 0))) := k30 _ _ pm_wha (Ne.symm (z_nn hn_wha hx_fa)) (Ne.symm (z_nn hn_wha hx_fi)) (Ne.symm (z_nn hn_wha hx_al)) (Ne.symm (z_nn hn_wha hx_ra)) (Ne.symm (z_nn hn_wha hx_ev))
    have a43 : f28 wev = some (.inl (cy 0, 8, .inl (fun _ => 0))) := k30 _ _ pm_wev (Ne.symm (z_nn hn_wev hx_fa)) (Ne.symm (z_nn hn_wev hx_fi)) (Ne.symm (z_nn hn_wev hx_al)) (Ne.symm (z_nn hn_wev hx_ra)) (Ne.symm (z_nn hn_wev hx_ev))
    have a44 : f28 wiw = some (.inl (cy 2, 60, .inl (fun _ => 0))) := k30 _ _ pm_wiw (Ne.symm (z_nn hn_wiw hx_fa)) (Ne.symm (z_nn hn_wiw hx_fi)) (Ne.symm (z_nn hn_wiw hx_al)) (Ne.symm (z_nn hn_wiw hx_ra)) (Ne.symm (z_nn hn_wiw hx_ev))
    refine z_callVi (As := [.int 1, .int (xs 2)]) C hz hS hA hl (k_X8_shelf l D cy f28 mo wev wnb wki wmy wce wiw wli wha wwt wfy wfk wem wna wpl whs wk1 wk2 wk3 1 (xs 2) (fun _ => 0) (fun _ => 0) (fun _ => 0) (fun _ => 0) (fun _ => 0) (fun _ => 0) (fun _ => 0) a37 a38 a39 a40 a41 a42 a43 a44 nkm nlh nkl nkh nml nmh (by decide) nw1 nw2 nw3 nw4) zyX8_shelf mML_60 a37 zl8 rfl rfl (Nat.le_of_ble_eq_true rfl) ⟨Nat.le_of_ble_eq_true rfl, Nat.le_of_ble_eq_true rfl⟩ ⟨Nat.le_of_ble_eq_true rfl, Nat.le_of_ble_eq_true rfl⟩ dL_law_612 (fun r f45 H locs h46 hz hS => ?_)
    subst h46
    refine lv_icmp_eq (tgt := 1360) hx hb dL_law_615 (by decide) (fun _ => ?_) (fun c47 => absurd rfl c47)
    refine W.widen (k := 200) (n := 20000) (Nat.le_of_ble_eq_true rfl) (Nat.le_of_ble_eq_true rfl) ?_
    exact fin _ _ _ hS (lv_sub hl [0, 3] rfl)
set_option maxHeartbeats 4000000 in
set_option maxRecDepth 100000 in
theorem law_case_10 {p : Program} {l : Launch} {e : Env} {s : State} {m : MethodId} {below : List Frame} {meth : Method} {c : Code} {D : va_G} {cy : Nat → ClassId} {b : Nat} {xs : Nat → Int32} (C : zC D cy p s m #[Value.ref b] meth c RL cL_law 4) (hXs : va_X b 5 xs s s.heap) (hbl : b < s.heap.size) (hbA : ¬ zLA s b) (fin : ∀ (H : Heap) (locs : List Loc) (ls : Array Slot), va_S (zLA s) s.heap H locs → lv_has ls 4 [(0, .ref b), (3, .int 0)] → W p l e room_1 s m #[Value.ref b] below meth c H locs 200 20000 (lw_Z below #[Value.ref b] s) (F0 m 1360 ls [])) {fX f : zM} {o fa fi nu fm co en ke ev al ra kn vq : Nat} {ge : Nat → Option Nat} {ea ma : Nat → Nat} {mo wev wnb wki wmy wce wiw wli wha wwt wfy wfk wem wna wpl whs wk1 wk2 wk3 : Nat} (hXX : zXF cy fX o fa fi nu fm co en ke ev al ra kn vq ge ea ma) (hn_mo : fX mo = none) (hn_wev : fX wev = none) (hn_wnb : fX wnb = none) (hn_wki : fX wki = none) (hn_wmy : fX wmy = none) (hn_wce : fX wce = none) (hn_wiw : fX wiw = none) (hn_wli : fX wli = none) (hn_wha : fX wha = none) (hn_wwt : fX wwt = none) (hn_wfy : fX wfy = none) (hn_wfk : fX wfk = none) (hn_wem : fX wem = none) (hn_wna : fX wna = none) (hn_wpl : fX wpl = none) (hn_whs : fX whs = none) (hn_wk1 : fX wk1 = none) (hn_wk2 : fX wk2 = none) (hn_wk3 : fX wk3 = none) (hXF : zXF cy f o fa fi nu fm co en ke ev al ra kn vq ge ea ma) (hMF : zMF cy f mo wev wnb wki wmy wce wiw wli wha wwt wfy wfk wem wna wpl whs wk1 wk2 wk3) {H : Heap} {locs : List Loc} {ls : Array Slot} (hz : zH D (zLA s) f H) (hS : va_S (zLA s) s.heap H locs) (hl : lv_has ls 4 [(0, .ref b), (1, .ref o), (2, .ref mo), (3, .int 0)]) : W p l e room_1 s m #[Value.ref b] below meth c H locs 100 5000 (lw_Z below #[Value.ref b] s) (F0 m 620 ls []) := by
  have hx := C.1
  have hb := C.2.1
  have hA : ∀ q, s.heap.size ≤ q → zLA s q := fun q h => h
  obtain ⟨px_o, px_fa, px_ev, px_fi, px_al, px_ra, px_nu, px_fm, px_co, px_en, px_ke, har, hG, hE, hM⟩ := hXF
  obtain ⟨pm_mo, pm_wev, pm_wnb, pm_wki, pm_wmy, pm_wce, pm_wiw, pm_wli, pm_wha, pm_wwt, pm_wfy, pm_wfk, pm_wem, pm_wna, pm_wpl, pm_whs, pm_wk1, pm_wk2, pm_wk3, nkm, nlh, nkl, nkh, nml, nmh, nc1, nc2, nc3, nw1, nw2, nw3, nw4⟩ := hMF
  obtain ⟨hx_o, hx_fa, hx_ev, hx_fi, hx_al, hx_ra, hx_nu, hx_fm, hx_co, hx_en, hx_ke, _, _, hxE, hxM⟩ := hXX
  refine lv_aload_n hx hb dL_law_620 rfl (lv_at hl 1 rfl) ?_
  refine lv_aload_n hx hb dL_law_621 rfl (lv_at hl 0 rfl) ?_
  refine lv_iload_n hx hb dL_law_622 rfl (lv_at hl 3 rfl) ?_
  refine lv_iconst (v := 1) hx hb dL_law_623 (by decide) ?_
  refine lv_iadd hx hb dL_law_624 ?_
  refine lv_topi (fun y1 e2 => ?_)
  obtain rfl : y1 = 1 := e2.trans (by decide)
  refine z_sld 1 hx hb hXs hbl hbA hS (by decide) (Nat.le_of_ble_eq_true rfl) (Nat.le_of_ble_eq_true rfl) dL_law_625 ?_
  refine lv_aload_n hx hb dL_law_626 rfl (lv_at hl 0 rfl) ?_
  refine lv_iload_n hx hb dL_law_627 rfl (lv_at hl 3 rfl) ?_
  refine lv_iconst (v := 2) hx hb dL_law_628 (by decide) ?_
  refine lv_iadd hx hb dL_law_629 ?_
  refine lv_topi (fun y3 e4 => ?_)
  obtain rfl : y3 = 2 := e4.trans (by decide)
  refine z_sld 2 hx hb hXs hbl hbA hS (by decide) (Nat.le_of_ble_eq_true rfl) (Nat.le_of_ble_eq_true rfl) dL_law_630 ?_
  refine lv_aload_n hx hb dL_law_631 rfl (lv_at hl 0 rfl) ?_
  refine lv_iload_n hx hb dL_law_632 rfl (lv_at hl 3 rfl) ?_
  refine lv_iconst (v := 3) hx hb dL_law_633 (by decide) ?_
  refine lv_iadd hx hb dL_law_634 ?_
  refine lv_topi (fun y5 e6 => ?_)
  obtain rfl : y5 = 3 := e6.trans (by decide)
  refine z_sld 3 hx hb hXs hbl hbA hS (by decide) (Nat.le_of_ble_eq_true rfl) (Nat.le_of_ble_eq_true rfl) dL_law_635 ?_
  refine z_callVi (As := [.int (xs 1), .int (xs 2), .int (xs 3)]) C hz hS hA hl (k_X7_set l D cy f o fa fi nu fm co en ke (xs 1) (xs 2) (xs 3) 0 (-1) 0 ev al ra px_o px_fa px_fi ) zyX7_set mML_61 px_o zl7 rfl rfl (Nat.le_of_ble_eq_true rfl) ⟨Nat.le_of_ble_eq_true rfl, Nat.le_of_ble_eq_true rfl⟩ ⟨Nat.le_of_ble_eq_true rfl, Nat.le_of_ble_eq_true rfl⟩ dL_law_636 (fun r f7 H locs h8 hz hS => ?_)
  obtain ⟨rfl, k9⟩ := h8
  refine lv_aload_n hx hb dL_law_639 rfl (lv_at hl 2 rfl) ?_
  refine lv_aload_n hx hb dL_law_640 rfl (lv_at hl 0 rfl) ?_
  refine lv_iload_n hx hb dL_law_641 rfl (lv_at hl 3 rfl) ?_
  refine lv_iconst (v := 1) hx hb dL_law_642 (by decide) ?_
  refine lv_iadd hx hb dL_law_643 ?_
  refine lv_topi (fun y10 e11 => ?_)
  obtain rfl : y10 = 1 := e11.trans (by decide)
  refine z_sld 1 hx hb hXs hbl hbA hS (by decide) (Nat.le_of_ble_eq_true rfl) (Nat.le_of_ble_eq_true rfl) dL_law_644 ?_
  refine lv_aload_n hx hb dL_law_645 rfl (lv_at hl 0 rfl) ?_
  refine lv_iload_n hx hb dL_law_646 rfl (lv_at hl 3 rfl) ?_
  refine lv_iconst (v := 2) hx hb dL_law_647 (by decide) ?_
  refine lv_iadd hx hb dL_law_648 ?_
  refine lv_topi (fun y12 e13 => ?_)
  obtain rfl : y12 = 2 := e13.trans (by decide)
  refine z_sld 2 hx hb hXs hbl hbA hS (by decide) (Nat.le_of_ble_eq_true rfl) (Nat.le_of_ble_eq_true rfl) dL_law_649 ?_
  refine lv_aload_n hx hb dL_law_650 rfl (lv_at hl 0 rfl) ?_
  refine lv_iload_n hx hb dL_law_651 rfl (lv_at hl 3 rfl) ?_
  refine lv_iconst (v := 3) hx hb dL_law_652 (by decide) ?_
  refine lv_iadd hx hb dL_law_653 ?_
  refine lv_topi (fun y14 e15 => ?_)
  obtain rfl : y14 = 3 := e15.trans (by decide)
  refine z_sld 3 hx hb hXs hbl hbA hS (by decide) (Nat.le_of_ble_eq_true rfl) (Nat.le_of_ble_eq_true rfl) dL_law_654 ?_
  have a16 : f7 mo = some (.inr (8, [.int 0, .int (-1), .int 0, .ref wev, .int 0, .ref wnb, .int 0, .ref wki, .ref wmy, .ref wce, .ref wiw, .ref wli, .ref wha, .ref wwt, .int 0, .ref wfy, .ref wfk, .int 0, .ref wem, .ref wna, .ref wpl, .ref whs, .long 1, .int 0, .ref wk1, .ref wk2, .ref wk3])) := k9 _ _ pm_mo (Ne.symm (z_nn hn_mo hx_fa))
  refine z_callVi (As := [.int (xs 1), .int (xs 2), .int (xs 3)]) C hz hS hA hl (k_X8_set l D cy f7 mo wev wnb wki wmy wce wiw wli wha wwt wfy wfk wem wna wpl whs wk1 wk2 wk3 (xs 1) (xs 2) (xs 3) a16 ) zyX8_set mML_64 a16 zl8 rfl rfl (Nat.le_of_ble_eq_true rfl) ⟨Nat.le_of_ble_eq_true rfl, Nat.le_of_ble_eq_true rfl⟩ ⟨Nat.le_of_ble_eq_true rfl, Nat.le_of_ble_eq_true rfl⟩ dL_law_655 (fun r f17 H locs h18 hz hS => ?_)
  subst h18
  refine lv_icmp_eq (tgt := 1360) hx hb dL_law_658 (by decide) (fun _ => ?_) (fun c19 => absurd rfl c19)
  refine W.widen (k := 200) (n := 20000) (Nat.le_of_ble_eq_true rfl) (Nat.le_of_ble_eq_true rfl) ?_
  exact fin _ _ _ hS (lv_sub hl [0, 3] rfl)
set_option maxHeartbeats 4000000 in
set_option maxRecDepth 100000 in
theorem law_case_11 {p : Program} {l : Launch} {e : Env} {s : State} {m : MethodId} {below : List Frame} {meth : Method} {c : Code} {D : va_G} {cy : Nat → ClassId} {b : Nat} {xs : Nat → Int32} (C : zC D cy p s m #[Value.ref b] meth c RL cL_law 4) (hXs : va_X b 5 xs s s.heap) (hbl : b < s.heap.size) (hbA : ¬ zLA s b) (fin : ∀ (H : Heap) (locs : List Loc) (ls : Array Slot), va_S (zLA s) s.heap H locs → lv_has ls 4 [(0, .ref b), (3, .int 0)] → W p l e room_1 s m #[Value.ref b] below meth c H locs 200 20000 (lw_Z below #[Value.ref b] s) (F0 m 1360 ls [])) {fX f : zM} {o fa fi nu fm co en ke ev al ra kn vq : Nat} {ge : Nat → Option Nat} {ea ma : Nat → Nat} {mo wev wnb wki wmy wce wiw wli wha wwt wfy wfk wem wna wpl whs wk1 wk2 wk3 : Nat} (hXX : zXF cy fX o fa fi nu fm co en ke ev al ra kn vq ge ea ma) (hn_mo : fX mo = none) (hn_wev : fX wev = none) (hn_wnb : fX wnb = none) (hn_wki : fX wki = none) (hn_wmy : fX wmy = none) (hn_wce : fX wce = none) (hn_wiw : fX wiw = none) (hn_wli : fX wli = none) (hn_wha : fX wha = none) (hn_wwt : fX wwt = none) (hn_wfy : fX wfy = none) (hn_wfk : fX wfk = none) (hn_wem : fX wem = none) (hn_wna : fX wna = none) (hn_wpl : fX wpl = none) (hn_whs : fX whs = none) (hn_wk1 : fX wk1 = none) (hn_wk2 : fX wk2 = none) (hn_wk3 : fX wk3 = none) (hXF : zXF cy f o fa fi nu fm co en ke ev al ra kn vq ge ea ma) (hMF : zMF cy f mo wev wnb wki wmy wce wiw wli wha wwt wfy wfk wem wna wpl whs wk1 wk2 wk3) {H : Heap} {locs : List Loc} {ls : Array Slot} (hz : zH D (zLA s) f H) (hS : va_S (zLA s) s.heap H locs) (hl : lv_has ls 4 [(0, .ref b), (1, .ref o), (2, .ref mo), (3, .int 0)]) : W p l e room_1 s m #[Value.ref b] below meth c H locs 100 5000 (lw_Z below #[Value.ref b] s) (F0 m 663 ls []) := by
  have hx := C.1
  have hb := C.2.1
  have hA : ∀ q, s.heap.size ≤ q → zLA s q := fun q h => h
  obtain ⟨px_o, px_fa, px_ev, px_fi, px_al, px_ra, px_nu, px_fm, px_co, px_en, px_ke, har, hG, hE, hM⟩ := hXF
  obtain ⟨pm_mo, pm_wev, pm_wnb, pm_wki, pm_wmy, pm_wce, pm_wiw, pm_wli, pm_wha, pm_wwt, pm_wfy, pm_wfk, pm_wem, pm_wna, pm_wpl, pm_whs, pm_wk1, pm_wk2, pm_wk3, nkm, nlh, nkl, nkh, nml, nmh, nc1, nc2, nc3, nw1, nw2, nw3, nw4⟩ := hMF
  obtain ⟨hx_o, hx_fa, hx_ev, hx_fi, hx_al, hx_ra, hx_nu, hx_fm, hx_co, hx_en, hx_ke, _, _, hxE, hxM⟩ := hXX
  refine lv_aload_n hx hb dL_law_663 rfl (lv_at hl 1 rfl) ?_
  refine lv_aload_n hx hb dL_law_664 rfl (lv_at hl 0 rfl) ?_
  refine lv_iload_n hx hb dL_law_665 rfl (lv_at hl 3 rfl) ?_
  refine lv_iconst (v := 1) hx hb dL_law_666 (by decide) ?_
  refine lv_iadd hx hb dL_law_667 ?_
  refine lv_topi (fun y1 e2 => ?_)
  obtain rfl : y1 = 1 := e2.trans (by decide)
  refine z_sld 1 hx hb hXs hbl hbA hS (by decide) (Nat.le_of_ble_eq_true rfl) (Nat.le_of_ble_eq_true rfl) dL_law_668 ?_
  refine lv_aload_n hx hb dL_law_669 rfl (lv_at hl 0 rfl) ?_
  refine lv_iload_n hx hb dL_law_670 rfl (lv_at hl 3 rfl) ?_
  refine lv_iconst (v := 2) hx hb dL_law_671 (by decide) ?_
  refine lv_iadd hx hb dL_law_672 ?_
  refine lv_topi (fun y3 e4 => ?_)
  obtain rfl : y3 = 2 := e4.trans (by decide)
  refine z_sld 2 hx hb hXs hbl hbA hS (by decide) (Nat.le_of_ble_eq_true rfl) (Nat.le_of_ble_eq_true rfl) dL_law_673 ?_
  refine z_callVi (As := [.int (xs 1), .int (xs 2)]) C hz hS hA hl (k_X7_at l D cy f o fa fi nu fm co en ke (xs 1) (xs 2) 0 (-1) 0 ev al ra px_o px_fa px_fi ) zyX7_at mML_65 px_o zl7 rfl rfl (Nat.le_of_ble_eq_true rfl) ⟨Nat.le_of_ble_eq_true rfl, Nat.le_of_ble_eq_true rfl⟩ ⟨Nat.le_of_ble_eq_true rfl, Nat.le_of_ble_eq_true rfl⟩ dL_law_674 (fun r f5 H locs h6 hz hS => ?_)
  obtain ⟨rfl, k7⟩ := h6
  refine lv_aload_n hx hb dL_law_677 rfl (lv_at hl 2 rfl) ?_
  refine lv_aload_n hx hb dL_law_678 rfl (lv_at hl 0 rfl) ?_
  refine lv_iload_n hx hb dL_law_679 rfl (lv_at hl 3 rfl) ?_
  refine lv_iconst (v := 1) hx hb dL_law_680 (by decide) ?_
  refine lv_iadd hx hb dL_law_681 ?_
  refine lv_topi (fun y8 e9 => ?_)
  obtain rfl : y8 = 1 := e9.trans (by decide)
  refine z_sld 1 hx hb hXs hbl hbA hS (by decide) (Nat.le_of_ble_eq_true rfl) (Nat.le_of_ble_eq_true rfl) dL_law_682 ?_
  refine lv_aload_n hx hb dL_law_683 rfl (lv_at hl 0 rfl) ?_
  refine lv_iload_n hx hb dL_law_684 rfl (lv_at hl 3 rfl) ?_
  refine lv_iconst (v := 2) hx hb dL_law_685 (by decide) ?_
  refine lv_iadd hx hb dL_law_686 ?_
  refine lv_topi (fun y10 e11 => ?_)
  obtain rfl : y10 = 2 := e11.trans (by decide)
  refine z_sld 2 hx hb hXs hbl hbA hS (by decide) (Nat.le_of_ble_eq_true rfl) (Nat.le_of_ble_eq_true rfl) dL_law_687 ?_
  have a12 : f5 mo = some (.inr (8, [.int 0, .int (-1), .int 0, .ref wev, .int 0, .ref wnb, .int 0, .ref wki, .ref wmy, .ref wce, .ref wiw, .ref wli, .ref wha, .ref wwt, .int 0, .ref wfy, .ref wfk, .int 0, .ref wem, .ref wna, .ref wpl, .ref whs, .long 1, .int 0, .ref wk1, .ref wk2, .ref wk3])) := k7 _ _ pm_mo (Ne.symm (z_nn hn_mo hx_fa))
  refine z_callVi (As := [.int (xs 1), .int (xs 2)]) C hz hS hA hl (k_X8_at_ l D cy f5 mo wev wnb wki wmy wce wiw wli wha wwt wfy wfk wem wna wpl whs wk1 wk2 wk3 (xs 1) (xs 2) a12 ) zyX8_at_ mML_68 a12 zl8 rfl rfl (Nat.le_of_ble_eq_true rfl) ⟨Nat.le_of_ble_eq_true rfl, Nat.le_of_ble_eq_true rfl⟩ ⟨Nat.le_of_ble_eq_true rfl, Nat.le_of_ble_eq_true rfl⟩ dL_law_688 (fun r f13 H locs h14 hz hS => ?_)
  subst h14
  refine lv_icmp_eq (tgt := 1360) hx hb dL_law_691 (by decide) (fun _ => ?_) (fun c15 => absurd rfl c15)
  refine W.widen (k := 200) (n := 20000) (Nat.le_of_ble_eq_true rfl) (Nat.le_of_ble_eq_true rfl) ?_
  exact fin _ _ _ hS (lv_sub hl [0, 3] rfl)
set_option maxHeartbeats 4000000 in
set_option maxRecDepth 100000 in
theorem law_case_12 {p : Program} {l : Launch} {e : Env} {s : State} {m : MethodId} {below : List Frame} {meth : Method} {c : Code} {D : va_G} {cy : Nat → ClassId} {b : Nat} {xs : Nat → Int32} (C : zC D cy p s m #[Value.ref b] meth c RL cL_law 4) (hXs : va_X b 5 xs s s.heap) (hbl : b < s.heap.size) (hbA : ¬ zLA s b) (fin : ∀ (H : Heap) (locs : List Loc) (ls : Array Slot), va_S (zLA s) s.heap H locs → lv_has ls 4 [(0, .ref b), (3, .int 0)] → W p l e room_1 s m #[Value.ref b] below meth c H locs 200 20000 (lw_Z below #[Value.ref b] s) (F0 m 1360 ls [])) {fX f : zM} {o fa fi nu fm co en ke ev al ra kn vq : Nat} {ge : Nat → Option Nat} {ea ma : Nat → Nat} {mo wev wnb wki wmy wce wiw wli wha wwt wfy wfk wem wna wpl whs wk1 wk2 wk3 : Nat} (hXX : zXF cy fX o fa fi nu fm co en ke ev al ra kn vq ge ea ma) (hn_mo : fX mo = none) (hn_wev : fX wev = none) (hn_wnb : fX wnb = none) (hn_wki : fX wki = none) (hn_wmy : fX wmy = none) (hn_wce : fX wce = none) (hn_wiw : fX wiw = none) (hn_wli : fX wli = none) (hn_wha : fX wha = none) (hn_wwt : fX wwt = none) (hn_wfy : fX wfy = none) (hn_wfk : fX wfk = none) (hn_wem : fX wem = none) (hn_wna : fX wna = none) (hn_wpl : fX wpl = none) (hn_whs : fX whs = none) (hn_wk1 : fX wk1 = none) (hn_wk2 : fX wk2 = none) (hn_wk3 : fX wk3 = none) (hXF : zXF cy f o fa fi nu fm co en ke ev al ra kn vq ge ea ma) (hMF : zMF cy f mo wev wnb wki wmy wce wiw wli wha wwt wfy wfk wem wna wpl whs wk1 wk2 wk3) {H : Heap} {locs : List Loc} {ls : Array Slot} (hz : zH D (zLA s) f H) (hS : va_S (zLA s) s.heap H locs) (hl : lv_has ls 4 [(0, .ref b), (1, .ref o), (2, .ref mo), (3, .int 0)]) : W p l e room_1 s m #[Value.ref b] below meth c H locs 100 5000 (lw_Z below #[Value.ref b] s) (F0 m 696 ls []) := by
  have hx := C.1
  have hb := C.2.1
  have hA : ∀ q, s.heap.size ≤ q → zLA s q := fun q h => h
  obtain ⟨px_o, px_fa, px_ev, px_fi, px_al, px_ra, px_nu, px_fm, px_co, px_en, px_ke, har, hG, hE, hM⟩ := hXF
  obtain ⟨pm_mo, pm_wev, pm_wnb, pm_wki, pm_wmy, pm_wce, pm_wiw, pm_wli, pm_wha, pm_wwt, pm_wfy, pm_wfk, pm_wem, pm_wna, pm_wpl, pm_whs, pm_wk1, pm_wk2, pm_wk3, nkm, nlh, nkl, nkh, nml, nmh, nc1, nc2, nc3, nw1, nw2, nw3, nw4⟩ := hMF
  obtain ⟨hx_o, hx_fa, hx_ev, hx_fi, hx_al, hx_ra, hx_nu, hx_fm, hx_co, hx_en, hx_ke, _, _, hxE, hxM⟩ := hXX
  refine lv_aload_n hx hb dL_law_696 rfl (lv_at hl 1 rfl) ?_
  refine lv_aload_n hx hb dL_law_697 rfl (lv_at hl 0 rfl) ?_
  refine lv_iload_n hx hb dL_law_698 rfl (lv_at hl 3 rfl) ?_
  refine lv_iconst (v := 1) hx hb dL_law_699 (by decide) ?_
  refine lv_iadd hx hb dL_law_700 ?_
  refine lv_topi (fun y1 e2 => ?_)
  obtain rfl : y1 = 1 := e2.trans (by decide)
  refine z_sld 1 hx hb hXs hbl hbA hS (by decide) (Nat.le_of_ble_eq_true rfl) (Nat.le_of_ble_eq_true rfl) dL_law_701 ?_
  refine z_callVi (As := [.int (xs 1)]) C hz hS hA hl (k_X7_kind l D cy f o fa fi nu fm co en ke (xs 1) al ra px_o px_fi ) zyX7_kind mML_69 px_o zl7 rfl rfl (Nat.le_of_ble_eq_true rfl) ⟨Nat.le_of_ble_eq_true rfl, Nat.le_of_ble_eq_true rfl⟩ ⟨Nat.le_of_ble_eq_true rfl, Nat.le_of_ble_eq_true rfl⟩ dL_law_702 (fun r f3 H locs h4 hz hS => ?_)
  obtain ⟨rfl, k5⟩ := h4
  refine lv_aload_n hx hb dL_law_705 rfl (lv_at hl 2 rfl) ?_
  refine lv_aload_n hx hb dL_law_706 rfl (lv_at hl 0 rfl) ?_
  refine lv_iload_n hx hb dL_law_707 rfl (lv_at hl 3 rfl) ?_
  refine lv_iconst (v := 1) hx hb dL_law_708 (by decide) ?_
  refine lv_iadd hx hb dL_law_709 ?_
  refine lv_topi (fun y6 e7 => ?_)
  obtain rfl : y6 = 1 := e7.trans (by decide)
  refine z_sld 1 hx hb hXs hbl hbA hS (by decide) (Nat.le_of_ble_eq_true rfl) (Nat.le_of_ble_eq_true rfl) dL_law_710 ?_
  have a8 : f3 mo = some (.inr (8, [.int 0, .int (-1), .int 0, .ref wev, .int 0, .ref wnb, .int 0, .ref wki, .ref wmy, .ref wce, .ref wiw, .ref wli, .ref wha, .ref wwt, .int 0, .ref wfy, .ref wfk, .int 0, .ref wem, .ref wna, .ref wpl, .ref whs, .long 1, .int 0, .ref wk1, .ref wk2, .ref wk3])) := k5 _ _ pm_mo 
  refine z_callVi (As := [.int (xs 1)]) C hz hS hA hl (k_X8_kind l D cy f3 mo wev wnb wki wmy wce wiw wli wha wwt wfy wfk wem wna wpl whs wk1 wk2 wk3 (xs 1) a8 ) zyX8_kind mML_72 a8 zl8 rfl rfl (Nat.le_of_ble_eq_true rfl) ⟨Nat.le_of_ble_eq_true rfl, Nat.le_of_ble_eq_true rfl⟩ ⟨Nat.le_of_ble_eq_true rfl, Nat.le_of_ble_eq_true rfl⟩ dL_law_711 (fun r f9 H locs h10 hz hS => ?_)
  subst h10
  refine lv_icmp_eq (tgt := 1360) hx hb dL_law_714 (by decide) (fun _ => ?_) (fun c11 => absurd rfl c11)
  refine W.widen (k := 200) (n := 20000) (Nat.le_of_ble_eq_true rfl) (Nat.le_of_ble_eq_true rfl) ?_
  exact fin _ _ _ hS (lv_sub hl [0, 3] rfl)
set_option maxHeartbeats 4000000 in
set_option maxRecDepth 100000 in
theorem law_case_13 {p : Program} {l : Launch} {e : Env} {s : State} {m : MethodId} {below : List Frame} {meth : Method} {c : Code} {D : va_G} {cy : Nat → ClassId} {b : Nat} {xs : Nat → Int32} (C : zC D cy p s m #[Value.ref b] meth c RL cL_law 4) (hXs : va_X b 5 xs s s.heap) (hbl : b < s.heap.size) (hbA : ¬ zLA s b) (fin : ∀ (H : Heap) (locs : List Loc) (ls : Array Slot), va_S (zLA s) s.heap H locs → lv_has ls 4 [(0, .ref b), (3, .int 0)] → W p l e room_1 s m #[Value.ref b] below meth c H locs 200 20000 (lw_Z below #[Value.ref b] s) (F0 m 1360 ls [])) {fX f : zM} {o fa fi nu fm co en ke ev al ra kn vq : Nat} {ge : Nat → Option Nat} {ea ma : Nat → Nat} {mo wev wnb wki wmy wce wiw wli wha wwt wfy wfk wem wna wpl whs wk1 wk2 wk3 : Nat} (hXX : zXF cy fX o fa fi nu fm co en ke ev al ra kn vq ge ea ma) (hn_mo : fX mo = none) (hn_wev : fX wev = none) (hn_wnb : fX wnb = none) (hn_wki : fX wki = none) (hn_wmy : fX wmy = none) (hn_wce : fX wce = none) (hn_wiw : fX wiw = none) (hn_wli : fX wli = none) (hn_wha : fX wha = none) (hn_wwt : fX wwt = none) (hn_wfy : fX wfy = none) (hn_wfk : fX wfk = none) (hn_wem : fX wem = none) (hn_wna : fX wna = none) (hn_wpl : fX wpl = none) (hn_whs : fX whs = none) (hn_wk1 : fX wk1 = none) (hn_wk2 : fX wk2 = none) (hn_wk3 : fX wk3 = none) (hXF : zXF cy f o fa fi nu fm co en ke ev al ra kn vq ge ea ma) (hMF : zMF cy f mo wev wnb wki wmy wce wiw wli wha wwt wfy wfk wem wna wpl whs wk1 wk2 wk3) {H : Heap} {locs : List Loc} {ls : Array Slot} (hz : zH D (zLA s) f H) (hS : va_S (zLA s) s.heap H locs) (hl : lv_has ls 4 [(0, .ref b), (1, .ref o), (2, .ref mo), (3, .int 0)]) : W p l e room_1 s m #[Value.ref b] below meth c H locs 100 5000 (lw_Z below #[Value.ref b] s) (F0 m 719 ls []) := by
  have hx := C.1
  have hb := C.2.1
  have hA : ∀ q, s.heap.size ≤ q → zLA s q := fun q h => h
  obtain ⟨px_o, px_fa, px_ev, px_fi, px_al, px_ra, px_nu, px_fm, px_co, px_en, px_ke, har, hG, hE, hM⟩ := hXF
  obtain ⟨pm_mo, pm_wev, pm_wnb, pm_wki, pm_wmy, pm_wce, pm_wiw, pm_wli, pm_wha, pm_wwt, pm_wfy, pm_wfk, pm_wem, pm_wna, pm_wpl, pm_whs, pm_wk1, pm_wk2, pm_wk3, nkm, nlh, nkl, nkh, nml, nmh, nc1, nc2, nc3, nw1, nw2, nw3, nw4⟩ := hMF
  obtain ⟨hx_o, hx_fa, hx_ev, hx_fi, hx_al, hx_ra, hx_nu, hx_fm, hx_co, hx_en, hx_ke, _, _, hxE, hxM⟩ := hXX
  refine lv_aload_n hx hb dL_law_719 rfl (lv_at hl 1 rfl) ?_
  refine lv_aload_n hx hb dL_law_720 rfl (lv_at hl 0 rfl) ?_
  refine lv_iload_n hx hb dL_law_721 rfl (lv_at hl 3 rfl) ?_
  refine lv_iconst (v := 1) hx hb dL_law_722 (by decide) ?_
  refine lv_iadd hx hb dL_law_723 ?_
  refine lv_topi (fun y1 e2 => ?_)
  obtain rfl : y1 = 1 := e2.trans (by decide)
  refine z_sld 1 hx hb hXs hbl hbA hS (by decide) (Nat.le_of_ble_eq_true rfl) (Nat.le_of_ble_eq_true rfl) dL_law_724 ?_
  refine z_callVi (As := [.int (xs 1)]) C hz hS hA hl (k_X7_parts l D cy f o fa fi nu fm co en ke (xs 1) al ra px_o px_fi ) zyX7_parts mML_73 px_o zl7 rfl rfl (Nat.le_of_ble_eq_true rfl) ⟨Nat.le_of_ble_eq_true rfl, Nat.le_of_ble_eq_true rfl⟩ ⟨Nat.le_of_ble_eq_true rfl, Nat.le_of_ble_eq_true rfl⟩ dL_law_725 (fun r f3 H locs h4 hz hS => ?_)
  obtain ⟨rfl, k5⟩ := h4
  refine lv_aload_n hx hb dL_law_728 rfl (lv_at hl 2 rfl) ?_
  refine lv_aload_n hx hb dL_law_729 rfl (lv_at hl 0 rfl) ?_
  refine lv_iload_n hx hb dL_law_730 rfl (lv_at hl 3 rfl) ?_
  refine lv_iconst (v := 1) hx hb dL_law_731 (by decide) ?_
  refine lv_iadd hx hb dL_law_732 ?_
  refine lv_topi (fun y6 e7 => ?_)
  obtain rfl : y6 = 1 := e7.trans (by decide)
  refine z_sld 1 hx hb hXs hbl hbA hS (by decide) (Nat.le_of_ble_eq_true rfl) (Nat.le_of_ble_eq_true rfl) dL_law_733 ?_
  have a8 : f3 mo = some (.inr (8, [.int 0, .int (-1), .int 0, .ref wev, .int 0, .ref wnb, .int 0, .ref wki, .ref wmy, .ref wce, .ref wiw, .ref wli, .ref wha, .ref wwt, .int 0, .ref wfy, .ref wfk, .int 0, .ref wem, .ref wna, .ref wpl, .ref whs, .long 1, .int 0, .ref wk1, .ref wk2, .ref wk3])) := k5 _ _ pm_mo 
  refine z_callVi (As := [.int (xs 1)]) C hz hS hA hl (k_X8_parts l D cy f3 mo wev wnb wki wmy wce wiw wli wha wwt wfy wfk wem wna wpl whs wk1 wk2 wk3 (xs 1) a8 ) zyX8_parts mML_76 a8 zl8 rfl rfl (Nat.le_of_ble_eq_true rfl) ⟨Nat.le_of_ble_eq_true rfl, Nat.le_of_ble_eq_true rfl⟩ ⟨Nat.le_of_ble_eq_true rfl, Nat.le_of_ble_eq_true rfl⟩ dL_law_734 (fun r f9 H locs h10 hz hS => ?_)
  subst h10
  refine lv_icmp_eq (tgt := 1360) hx hb dL_law_737 (by decide) (fun _ => ?_) (fun c11 => absurd rfl c11)
  refine W.widen (k := 200) (n := 20000) (Nat.le_of_ble_eq_true rfl) (Nat.le_of_ble_eq_true rfl) ?_
  exact fin _ _ _ hS (lv_sub hl [0, 3] rfl)
set_option maxHeartbeats 4000000 in
set_option maxRecDepth 100000 in
theorem law_case_14 {p : Program} {l : Launch} {e : Env} {s : State} {m : MethodId} {below : List Frame} {meth : Method} {c : Code} {D : va_G} {cy : Nat → ClassId} {b : Nat} {xs : Nat → Int32} (C : zC D cy p s m #[Value.ref b] meth c RL cL_law 4) (hXs : va_X b 5 xs s s.heap) (hbl : b < s.heap.size) (hbA : ¬ zLA s b) (fin : ∀ (H : Heap) (locs : List Loc) (ls : Array Slot), va_S (zLA s) s.heap H locs → lv_has ls 4 [(0, .ref b), (3, .int 0)] → W p l e room_1 s m #[Value.ref b] below meth c H locs 200 20000 (lw_Z below #[Value.ref b] s) (F0 m 1360 ls [])) {fX f : zM} {o fa fi nu fm co en ke ev al ra kn vq : Nat} {ge : Nat → Option Nat} {ea ma : Nat → Nat} {mo wev wnb wki wmy wce wiw wli wha wwt wfy wfk wem wna wpl whs wk1 wk2 wk3 : Nat} (hXX : zXF cy fX o fa fi nu fm co en ke ev al ra kn vq ge ea ma) (hn_mo : fX mo = none) (hn_wev : fX wev = none) (hn_wnb : fX wnb = none) (hn_wki : fX wki = none) (hn_wmy : fX wmy = none) (hn_wce : fX wce = none) (hn_wiw : fX wiw = none) (hn_wli : fX wli = none) (hn_wha : fX wha = none) (hn_wwt : fX wwt = none) (hn_wfy : fX wfy = none) (hn_wfk : fX wfk = none) (hn_wem : fX wem = none) (hn_wna : fX wna = none) (hn_wpl : fX wpl = none) (hn_whs : fX whs = none) (hn_wk1 : fX wk1 = none) (hn_wk2 : fX wk2 = none) (hn_wk3 : fX wk3 = none) (hXF : zXF cy f o fa fi nu fm co en ke ev al ra kn vq ge ea ma) (hMF : zMF cy f mo wev wnb wki wmy wce wiw wli wha wwt wfy wfk wem wna wpl whs wk1 wk2 wk3) {H : Heap} {locs : List Loc} {ls : Array Slot} (hz : zH D (zLA s) f H) (hS : va_S (zLA s) s.heap H locs) (hl : lv_has ls 4 [(0, .ref b), (1, .ref o), (2, .ref mo), (3, .int 0)]) : W p l e room_1 s m #[Value.ref b] below meth c H locs 100 5000 (lw_Z below #[Value.ref b] s) (F0 m 742 ls []) := by
  have hx := C.1
  have hb := C.2.1
  have hA : ∀ q, s.heap.size ≤ q → zLA s q := fun q h => h
  obtain ⟨px_o, px_fa, px_ev, px_fi, px_al, px_ra, px_nu, px_fm, px_co, px_en, px_ke, har, hG, hE, hM⟩ := hXF
  obtain ⟨pm_mo, pm_wev, pm_wnb, pm_wki, pm_wmy, pm_wce, pm_wiw, pm_wli, pm_wha, pm_wwt, pm_wfy, pm_wfk, pm_wem, pm_wna, pm_wpl, pm_whs, pm_wk1, pm_wk2, pm_wk3, nkm, nlh, nkl, nkh, nml, nmh, nc1, nc2, nc3, nw1, nw2, nw3, nw4⟩ := hMF
  obtain ⟨hx_o, hx_fa, hx_ev, hx_fi, hx_al, hx_ra, hx_nu, hx_fm, hx_co, hx_en, hx_ke, _, _, hxE, hxM⟩ := hXX
  refine lv_aload_n hx hb dL_law_742 rfl (lv_at hl 1 rfl) ?_
  refine lv_aload_n hx hb dL_law_743 rfl (lv_at hl 0 rfl) ?_
  refine lv_iload_n hx hb dL_law_744 rfl (lv_at hl 3 rfl) ?_
  refine lv_iconst (v := 1) hx hb dL_law_745 (by decide) ?_
  refine lv_iadd hx hb dL_law_746 ?_
  refine lv_topi (fun y1 e2 => ?_)
  obtain rfl : y1 = 1 := e2.trans (by decide)
  refine z_sld 1 hx hb hXs hbl hbA hS (by decide) (Nat.le_of_ble_eq_true rfl) (Nat.le_of_ble_eq_true rfl) dL_law_747 ?_
  refine lv_aload_n hx hb dL_law_748 rfl (lv_at hl 0 rfl) ?_
  refine lv_iload_n hx hb dL_law_749 rfl (lv_at hl 3 rfl) ?_
  refine lv_iconst (v := 2) hx hb dL_law_750 (by decide) ?_
  refine lv_iadd hx hb dL_law_751 ?_
  refine lv_topi (fun y3 e4 => ?_)
  obtain rfl : y3 = 2 := e4.trans (by decide)
  refine z_sld 2 hx hb hXs hbl hbA hS (by decide) (Nat.le_of_ble_eq_true rfl) (Nat.le_of_ble_eq_true rfl) dL_law_752 ?_
  refine z_callVl (As := [.int (xs 1), .int (xs 2)]) C hz hS hA hl (k_X7_part l D cy f o fa fi nu fm co en ke (xs 1) (xs 2) al ra px_o px_fi ) zyX7_part mML_77 px_o zl7 rfl rfl (Nat.le_of_ble_eq_true rfl) ⟨Nat.le_of_ble_eq_true rfl, Nat.le_of_ble_eq_true rfl⟩ ⟨Nat.le_of_ble_eq_true rfl, Nat.le_of_ble_eq_true rfl⟩ dL_law_753 (fun r f5 H locs h6 hz hS => ?_)
  obtain ⟨rfl, k7⟩ := h6
  refine lv_aload_n hx hb dL_law_756 rfl (lv_at hl 2 rfl) ?_
  refine lv_aload_n hx hb dL_law_757 rfl (lv_at hl 0 rfl) ?_
  refine lv_iload_n hx hb dL_law_758 rfl (lv_at hl 3 rfl) ?_
  refine lv_iconst (v := 1) hx hb dL_law_759 (by decide) ?_
  refine lv_iadd hx hb dL_law_760 ?_
  refine lv_topi (fun y8 e9 => ?_)
  obtain rfl : y8 = 1 := e9.trans (by decide)
  refine z_sld 1 hx hb hXs hbl hbA hS (by decide) (Nat.le_of_ble_eq_true rfl) (Nat.le_of_ble_eq_true rfl) dL_law_761 ?_
  refine lv_aload_n hx hb dL_law_762 rfl (lv_at hl 0 rfl) ?_
  refine lv_iload_n hx hb dL_law_763 rfl (lv_at hl 3 rfl) ?_
  refine lv_iconst (v := 2) hx hb dL_law_764 (by decide) ?_
  refine lv_iadd hx hb dL_law_765 ?_
  refine lv_topi (fun y10 e11 => ?_)
  obtain rfl : y10 = 2 := e11.trans (by decide)
  refine z_sld 2 hx hb hXs hbl hbA hS (by decide) (Nat.le_of_ble_eq_true rfl) (Nat.le_of_ble_eq_true rfl) dL_law_766 ?_
  have a12 : f5 mo = some (.inr (8, [.int 0, .int (-1), .int 0, .ref wev, .int 0, .ref wnb, .int 0, .ref wki, .ref wmy, .ref wce, .ref wiw, .ref wli, .ref wha, .ref wwt, .int 0, .ref wfy, .ref wfk, .int 0, .ref wem, .ref wna, .ref wpl, .ref whs, .long 1, .int 0, .ref wk1, .ref wk2, .ref wk3])) := k7 _ _ pm_mo 
  refine z_callVl (As := [.int (xs 1), .int (xs 2)]) C hz hS hA hl (k_X8_part_ l D cy f5 mo wev wnb wki wmy wce wiw wli wha wwt wfy wfk wem wna wpl whs wk1 wk2 wk3 (xs 1) (xs 2) a12 ) zyX8_part_ mML_81 a12 zl8 rfl rfl (Nat.le_of_ble_eq_true rfl) ⟨Nat.le_of_ble_eq_true rfl, Nat.le_of_ble_eq_true rfl⟩ ⟨Nat.le_of_ble_eq_true rfl, Nat.le_of_ble_eq_true rfl⟩ dL_law_767 (fun r f13 H locs h14 hz hS => ?_)
  subst h14
  refine W.lcmp hx hb dL_law_770 ?_
  refine lv_if_eq (tgt := 1360) hx hb dL_law_771 (by decide) (fun _ => ?_) (fun c15 => absurd ((lg_cmp_eq _ _).mpr rfl) c15)
  refine W.widen (k := 200) (n := 20000) (Nat.le_of_ble_eq_true rfl) (Nat.le_of_ble_eq_true rfl) ?_
  exact fin _ _ _ hS (lv_sub hl [0, 3] rfl)
set_option maxHeartbeats 4000000 in
set_option maxRecDepth 100000 in
theorem law_case_15 {p : Program} {l : Launch} {e : Env} {s : State} {m : MethodId} {below : List Frame} {meth : Method} {c : Code} {D : va_G} {cy : Nat → ClassId} {b : Nat} {xs : Nat → Int32} (C : zC D cy p s m #[Value.ref b] meth c RL cL_law 4) (hXs : va_X b 5 xs s s.heap) (hbl : b < s.heap.size) (hbA : ¬ zLA s b) (fin : ∀ (H : Heap) (locs : List Loc) (ls : Array Slot), va_S (zLA s) s.heap H locs → lv_has ls 4 [(0, .ref b), (3, .int 0)] → W p l e room_1 s m #[Value.ref b] below meth c H locs 200 20000 (lw_Z below #[Value.ref b] s) (F0 m 1360 ls [])) {fX f : zM} {o fa fi nu fm co en ke ev al ra kn vq : Nat} {ge : Nat → Option Nat} {ea ma : Nat → Nat} {mo wev wnb wki wmy wce wiw wli wha wwt wfy wfk wem wna wpl whs wk1 wk2 wk3 : Nat} (hXX : zXF cy fX o fa fi nu fm co en ke ev al ra kn vq ge ea ma) (hn_mo : fX mo = none) (hn_wev : fX wev = none) (hn_wnb : fX wnb = none) (hn_wki : fX wki = none) (hn_wmy : fX wmy = none) (hn_wce : fX wce = none) (hn_wiw : fX wiw = none) (hn_wli : fX wli = none) (hn_wha : fX wha = none) (hn_wwt : fX wwt = none) (hn_wfy : fX wfy = none) (hn_wfk : fX wfk = none) (hn_wem : fX wem = none) (hn_wna : fX wna = none) (hn_wpl : fX wpl = none) (hn_whs : fX whs = none) (hn_wk1 : fX wk1 = none) (hn_wk2 : fX wk2 = none) (hn_wk3 : fX wk3 = none) (hXF : zXF cy f o fa fi nu fm co en ke ev al ra kn vq ge ea ma) (hMF : zMF cy f mo wev wnb wki wmy wce wiw wli wha wwt wfy wfk wem wna wpl whs wk1 wk2 wk3) {H : Heap} {locs : List Loc} {ls : Array Slot} (hz : zH D (zLA s) f H) (hS : va_S (zLA s) s.heap H locs) (hl : lv_has ls 4 [(0, .ref b), (1, .ref o), (2, .ref mo), (3, .int 0)]) : W p l e room_1 s m #[Value.ref b] below meth c H locs 100 5000 (lw_Z below #[Value.ref b] s) (F0 m 776 ls []) := by
  have hx := C.1
  have hb := C.2.1
  have hA : ∀ q, s.heap.size ≤ q → zLA s q := fun q h => h
  obtain ⟨px_o, px_fa, px_ev, px_fi, px_al, px_ra, px_nu, px_fm, px_co, px_en, px_ke, har, hG, hE, hM⟩ := hXF
  obtain ⟨pm_mo, pm_wev, pm_wnb, pm_wki, pm_wmy, pm_wce, pm_wiw, pm_wli, pm_wha, pm_wwt, pm_wfy, pm_wfk, pm_wem, pm_wna, pm_wpl, pm_whs, pm_wk1, pm_wk2, pm_wk3, nkm, nlh, nkl, nkh, nml, nmh, nc1, nc2, nc3, nw1, nw2, nw3, nw4⟩ := hMF
  obtain ⟨hx_o, hx_fa, hx_ev, hx_fi, hx_al, hx_ra, hx_nu, hx_fm, hx_co, hx_en, hx_ke, _, _, hxE, hxM⟩ := hXX
  refine lv_aload_n hx hb dL_law_776 rfl (lv_at hl 1 rfl) ?_
  refine lv_aload_n hx hb dL_law_777 rfl (lv_at hl 0 rfl) ?_
  refine lv_iload_n hx hb dL_law_778 rfl (lv_at hl 3 rfl) ?_
  refine lv_iconst (v := 1) hx hb dL_law_779 (by decide) ?_
  refine lv_iadd hx hb dL_law_780 ?_
  refine lv_topi (fun y1 e2 => ?_)
  obtain rfl : y1 = 1 := e2.trans (by decide)
  refine z_sld 1 hx hb hXs hbl hbA hS (by decide) (Nat.le_of_ble_eq_true rfl) (Nat.le_of_ble_eq_true rfl) dL_law_781 ?_
  refine lv_aload_n hx hb dL_law_782 rfl (lv_at hl 0 rfl) ?_
  refine lv_iload_n hx hb dL_law_783 rfl (lv_at hl 3 rfl) ?_
  refine lv_iconst (v := 2) hx hb dL_law_784 (by decide) ?_
  refine lv_iadd hx hb dL_law_785 ?_
  refine lv_topi (fun y3 e4 => ?_)
  obtain rfl : y3 = 2 := e4.trans (by decide)
  refine z_sld 2 hx hb hXs hbl hbA hS (by decide) (Nat.le_of_ble_eq_true rfl) (Nat.le_of_ble_eq_true rfl) dL_law_786 ?_
  refine lv_if_eq (tgt := 794) hx hb dL_law_787 (by decide) (fun c5 => ?_) (fun c5 => ?_)
  · refine lv_iconst (v := 0) hx hb dL_law_794 (by decide) ?_
    refine z_callVl (As := [.int (xs 1), .int 0]) C hz hS hA hl (k_X7_weight l D cy f o fa fi nu fm co en ke (xs 1) 0 al ra px_o px_fi ) zyX7_weight mML_82 px_o zl7 rfl rfl (Nat.le_of_ble_eq_true rfl) ⟨Nat.le_of_ble_eq_true rfl, Nat.le_of_ble_eq_true rfl⟩ ⟨Nat.le_of_ble_eq_true rfl, Nat.le_of_ble_eq_true rfl⟩ dL_law_795 (fun r f6 H locs h7 hz hS => ?_)
    obtain ⟨rfl, k8⟩ := h7
    refine lv_aload_n hx hb dL_law_798 rfl (lv_at hl 2 rfl) ?_
    refine lv_aload_n hx hb dL_law_799 rfl (lv_at hl 0 rfl) ?_
    refine lv_iload_n hx hb dL_law_800 rfl (lv_at hl 3 rfl) ?_
    refine lv_iconst (v := 1) hx hb dL_law_801 (by decide) ?_
    refine lv_iadd hx hb dL_law_802 ?_
    refine lv_topi (fun y9 e10 => ?_)
    obtain rfl : y9 = 1 := e10.trans (by decide)
    refine z_sld 1 hx hb hXs hbl hbA hS (by decide) (Nat.le_of_ble_eq_true rfl) (Nat.le_of_ble_eq_true rfl) dL_law_803 ?_
    refine lv_aload_n hx hb dL_law_804 rfl (lv_at hl 0 rfl) ?_
    refine lv_iload_n hx hb dL_law_805 rfl (lv_at hl 3 rfl) ?_
    refine lv_iconst (v := 2) hx hb dL_law_806 (by decide) ?_
    refine lv_iadd hx hb dL_law_807 ?_
    refine lv_topi (fun y11 e12 => ?_)
    obtain rfl : y11 = 2 := e12.trans (by decide)
    refine z_sld 2 hx hb hXs hbl hbA hS (by decide) (Nat.le_of_ble_eq_true rfl) (Nat.le_of_ble_eq_true rfl) dL_law_808 ?_
    refine lv_if_eq (tgt := 816) hx hb dL_law_809 (by decide) (fun c14 => ?_) (fun c14 => ?_)
    rotate_left
    · exact absurd c5 c14
    refine lv_iconst (v := 0) hx hb dL_law_816 (by decide) ?_
    have a15 : f6 mo = some (.inr (8, [.int 0, .int (-1), .int 0, .ref wev, .int 0, .ref wnb, .int 0, .ref wki, .ref wmy, .ref wce, .ref wiw, .ref wli, .ref wha, .ref wwt, .int 0, .ref wfy, .ref wfk, .int 0, .ref wem, .ref wna, .ref wpl, .ref whs, .long 1, .int 0, .ref wk1, .ref wk2, .ref wk3])) := k8 _ _ pm_mo 
    refine z_callVl (As := [.int (xs 1), .int 0]) C hz hS hA hl (k_X8_weight l D cy f6 mo wev wnb wki wmy wce wiw wli wha wwt wfy wfk wem wna wpl whs wk1 wk2 wk3 (xs 1) 0 a15 ) zyX8_weight mML_86 a15 zl8 rfl rfl (Nat.le_of_ble_eq_true rfl) ⟨Nat.le_of_ble_eq_true rfl, Nat.le_of_ble_eq_true rfl⟩ ⟨Nat.le_of_ble_eq_true rfl, Nat.le_of_ble_eq_true rfl⟩ dL_law_817 (fun r f16 H locs h17 hz hS => ?_)
    subst h17
    refine W.lcmp hx hb dL_law_820 ?_
    refine lv_if_eq (tgt := 1360) hx hb dL_law_821 (by decide) (fun _ => ?_) (fun c18 => absurd ((lg_cmp_eq _ _).mpr rfl) c18)
    refine W.widen (k := 200) (n := 20000) (Nat.le_of_ble_eq_true rfl) (Nat.le_of_ble_eq_true rfl) ?_
    exact fin _ _ _ hS (lv_sub hl [0, 3] rfl)
  · refine lv_iconst (v := 1) hx hb dL_law_790 (by decide) ?_
    refine lv_goto (tgt := 795) hx hb dL_law_791 (by decide) ?_
    refine z_callVl (As := [.int (xs 1), .int 1]) C hz hS hA hl (k_X7_weight l D cy f o fa fi nu fm co en ke (xs 1) 1 al ra px_o px_fi ) zyX7_weight mML_82 px_o zl7 rfl rfl (Nat.le_of_ble_eq_true rfl) ⟨Nat.le_of_ble_eq_true rfl, Nat.le_of_ble_eq_true rfl⟩ ⟨Nat.le_of_ble_eq_true rfl, Nat.le_of_ble_eq_true rfl⟩ dL_law_795 (fun r f19 H locs h20 hz hS => ?_)
    obtain ⟨rfl, k21⟩ := h20
    refine lv_aload_n hx hb dL_law_798 rfl (lv_at hl 2 rfl) ?_
    refine lv_aload_n hx hb dL_law_799 rfl (lv_at hl 0 rfl) ?_
    refine lv_iload_n hx hb dL_law_800 rfl (lv_at hl 3 rfl) ?_
    refine lv_iconst (v := 1) hx hb dL_law_801 (by decide) ?_
    refine lv_iadd hx hb dL_law_802 ?_
    refine lv_topi (fun y22 e23 => ?_)
    obtain rfl : y22 = 1 := e23.trans (by decide)
    refine z_sld 1 hx hb hXs hbl hbA hS (by decide) (Nat.le_of_ble_eq_true rfl) (Nat.le_of_ble_eq_true rfl) dL_law_803 ?_
    refine lv_aload_n hx hb dL_law_804 rfl (lv_at hl 0 rfl) ?_
    refine lv_iload_n hx hb dL_law_805 rfl (lv_at hl 3 rfl) ?_
    refine lv_iconst (v := 2) hx hb dL_law_806 (by decide) ?_
    refine lv_iadd hx hb dL_law_807 ?_
    refine lv_topi (fun y24 e25 => ?_)
    obtain rfl : y24 = 2 := e25.trans (by decide)
    refine z_sld 2 hx hb hXs hbl hbA hS (by decide) (Nat.le_of_ble_eq_true rfl) (Nat.le_of_ble_eq_true rfl) dL_law_808 ?_
    refine lv_if_eq (tgt := 816) hx hb dL_law_809 (by decide) (fun c27 => ?_) (fun c27 => ?_)
    · exact absurd c27 c5
    refine lv_iconst (v := 1) hx hb dL_law_812 (by decide) ?_
    refine lv_goto (tgt := 817) hx hb dL_law_813 (by decide) ?_
    have a28 : f19 mo = some (.inr (8, [.int 0, .int (-1), .int 0, .ref wev, .int 0, .ref wnb, .int 0, .ref wki, .ref wmy, .ref wce, .ref wiw, .ref wli, .ref wha, .ref wwt, .int 0, .ref wfy, .ref wfk, .int 0, .ref wem, .ref wna, .ref wpl, .ref whs, .long 1, .int 0, .ref wk1, .ref wk2, .ref wk3])) := k21 _ _ pm_mo 
    refine z_callVl (As := [.int (xs 1), .int 1]) C hz hS hA hl (k_X8_weight l D cy f19 mo wev wnb wki wmy wce wiw wli wha wwt wfy wfk wem wna wpl whs wk1 wk2 wk3 (xs 1) 1 a28 ) zyX8_weight mML_86 a28 zl8 rfl rfl (Nat.le_of_ble_eq_true rfl) ⟨Nat.le_of_ble_eq_true rfl, Nat.le_of_ble_eq_true rfl⟩ ⟨Nat.le_of_ble_eq_true rfl, Nat.le_of_ble_eq_true rfl⟩ dL_law_817 (fun r f29 H locs h30 hz hS => ?_)
    subst h30
    refine W.lcmp hx hb dL_law_820 ?_
    refine lv_if_eq (tgt := 1360) hx hb dL_law_821 (by decide) (fun _ => ?_) (fun c31 => absurd ((lg_cmp_eq _ _).mpr rfl) c31)
    refine W.widen (k := 200) (n := 20000) (Nat.le_of_ble_eq_true rfl) (Nat.le_of_ble_eq_true rfl) ?_
    exact fin _ _ _ hS (lv_sub hl [0, 3] rfl)
set_option maxHeartbeats 4000000 in
set_option maxRecDepth 100000 in
theorem law_case_16 {p : Program} {l : Launch} {e : Env} {s : State} {m : MethodId} {below : List Frame} {meth : Method} {c : Code} {D : va_G} {cy : Nat → ClassId} {b : Nat} {xs : Nat → Int32} (C : zC D cy p s m #[Value.ref b] meth c RL cL_law 4) (hXs : va_X b 5 xs s s.heap) (hbl : b < s.heap.size) (hbA : ¬ zLA s b) (fin : ∀ (H : Heap) (locs : List Loc) (ls : Array Slot), va_S (zLA s) s.heap H locs → lv_has ls 4 [(0, .ref b), (3, .int 0)] → W p l e room_1 s m #[Value.ref b] below meth c H locs 200 20000 (lw_Z below #[Value.ref b] s) (F0 m 1360 ls [])) {fX f : zM} {o fa fi nu fm co en ke ev al ra kn vq : Nat} {ge : Nat → Option Nat} {ea ma : Nat → Nat} {mo wev wnb wki wmy wce wiw wli wha wwt wfy wfk wem wna wpl whs wk1 wk2 wk3 : Nat} (hXX : zXF cy fX o fa fi nu fm co en ke ev al ra kn vq ge ea ma) (hn_mo : fX mo = none) (hn_wev : fX wev = none) (hn_wnb : fX wnb = none) (hn_wki : fX wki = none) (hn_wmy : fX wmy = none) (hn_wce : fX wce = none) (hn_wiw : fX wiw = none) (hn_wli : fX wli = none) (hn_wha : fX wha = none) (hn_wwt : fX wwt = none) (hn_wfy : fX wfy = none) (hn_wfk : fX wfk = none) (hn_wem : fX wem = none) (hn_wna : fX wna = none) (hn_wpl : fX wpl = none) (hn_whs : fX whs = none) (hn_wk1 : fX wk1 = none) (hn_wk2 : fX wk2 = none) (hn_wk3 : fX wk3 = none) (hXF : zXF cy f o fa fi nu fm co en ke ev al ra kn vq ge ea ma) (hMF : zMF cy f mo wev wnb wki wmy wce wiw wli wha wwt wfy wfk wem wna wpl whs wk1 wk2 wk3) {H : Heap} {locs : List Loc} {ls : Array Slot} (hz : zH D (zLA s) f H) (hS : va_S (zLA s) s.heap H locs) (hl : lv_has ls 4 [(0, .ref b), (1, .ref o), (2, .ref mo), (3, .int 0)]) : W p l e room_1 s m #[Value.ref b] below meth c H locs 100 5000 (lw_Z below #[Value.ref b] s) (F0 m 826 ls []) := by
  have hx := C.1
  have hb := C.2.1
  have hA : ∀ q, s.heap.size ≤ q → zLA s q := fun q h => h
  obtain ⟨px_o, px_fa, px_ev, px_fi, px_al, px_ra, px_nu, px_fm, px_co, px_en, px_ke, har, hG, hE, hM⟩ := hXF
  obtain ⟨pm_mo, pm_wev, pm_wnb, pm_wki, pm_wmy, pm_wce, pm_wiw, pm_wli, pm_wha, pm_wwt, pm_wfy, pm_wfk, pm_wem, pm_wna, pm_wpl, pm_whs, pm_wk1, pm_wk2, pm_wk3, nkm, nlh, nkl, nkh, nml, nmh, nc1, nc2, nc3, nw1, nw2, nw3, nw4⟩ := hMF
  obtain ⟨hx_o, hx_fa, hx_ev, hx_fi, hx_al, hx_ra, hx_nu, hx_fm, hx_co, hx_en, hx_ke, _, _, hxE, hxM⟩ := hXX
  refine lv_aload_n hx hb dL_law_826 rfl (lv_at hl 1 rfl) ?_
  refine lv_aload_n hx hb dL_law_827 rfl (lv_at hl 0 rfl) ?_
  refine lv_iload_n hx hb dL_law_828 rfl (lv_at hl 3 rfl) ?_
  refine lv_iconst (v := 1) hx hb dL_law_829 (by decide) ?_
  refine lv_iadd hx hb dL_law_830 ?_
  refine lv_topi (fun y1 e2 => ?_)
  obtain rfl : y1 = 1 := e2.trans (by decide)
  refine z_sld 1 hx hb hXs hbl hbA hS (by decide) (Nat.le_of_ble_eq_true rfl) (Nat.le_of_ble_eq_true rfl) dL_law_831 ?_
  refine lv_aload_n hx hb dL_law_832 rfl (lv_at hl 0 rfl) ?_
  refine lv_iload_n hx hb dL_law_833 rfl (lv_at hl 3 rfl) ?_
  refine lv_iconst (v := 2) hx hb dL_law_834 (by decide) ?_
  refine lv_iadd hx hb dL_law_835 ?_
  refine lv_topi (fun y3 e4 => ?_)
  obtain rfl : y3 = 2 := e4.trans (by decide)
  refine z_sld 2 hx hb hXs hbl hbA hS (by decide) (Nat.le_of_ble_eq_true rfl) (Nat.le_of_ble_eq_true rfl) dL_law_836 ?_
  refine z_callVi (As := [.int (xs 1), .int (xs 2)]) C hz hS hA hl (k_X7_equal l D cy f o fa fi nu fm co en ke (xs 1) (xs 2) al ra px_o px_fi ) zyX7_equal mML_87 px_o zl7 rfl rfl (Nat.le_of_ble_eq_true rfl) ⟨Nat.le_of_ble_eq_true rfl, Nat.le_of_ble_eq_true rfl⟩ ⟨Nat.le_of_ble_eq_true rfl, Nat.le_of_ble_eq_true rfl⟩ dL_law_837 (fun r f5 H locs h6 hz hS => ?_)
  obtain ⟨rfl, k7⟩ := h6
  refine lv_aload_n hx hb dL_law_840 rfl (lv_at hl 2 rfl) ?_
  refine lv_aload_n hx hb dL_law_841 rfl (lv_at hl 0 rfl) ?_
  refine lv_iload_n hx hb dL_law_842 rfl (lv_at hl 3 rfl) ?_
  refine lv_iconst (v := 1) hx hb dL_law_843 (by decide) ?_
  refine lv_iadd hx hb dL_law_844 ?_
  refine lv_topi (fun y8 e9 => ?_)
  obtain rfl : y8 = 1 := e9.trans (by decide)
  refine z_sld 1 hx hb hXs hbl hbA hS (by decide) (Nat.le_of_ble_eq_true rfl) (Nat.le_of_ble_eq_true rfl) dL_law_845 ?_
  refine lv_aload_n hx hb dL_law_846 rfl (lv_at hl 0 rfl) ?_
  refine lv_iload_n hx hb dL_law_847 rfl (lv_at hl 3 rfl) ?_
  refine lv_iconst (v := 2) hx hb dL_law_848 (by decide) ?_
  refine lv_iadd hx hb dL_law_849 ?_
  refine lv_topi (fun y10 e11 => ?_)
  obtain rfl : y10 = 2 := e11.trans (by decide)
  refine z_sld 2 hx hb hXs hbl hbA hS (by decide) (Nat.le_of_ble_eq_true rfl) (Nat.le_of_ble_eq_true rfl) dL_law_850 ?_
  have a12 : f5 mo = some (.inr (8, [.int 0, .int (-1), .int 0, .ref wev, .int 0, .ref wnb, .int 0, .ref wki, .ref wmy, .ref wce, .ref wiw, .ref wli, .ref wha, .ref wwt, .int 0, .ref wfy, .ref wfk, .int 0, .ref wem, .ref wna, .ref wpl, .ref whs, .long 1, .int 0, .ref wk1, .ref wk2, .ref wk3])) := k7 _ _ pm_mo 
  refine z_callVi (As := [.int (xs 1), .int (xs 2)]) C hz hS hA hl (k_X8_equal l D cy f5 mo wev wnb wki wmy wce wiw wli wha wwt wfy wfk wem wna wpl whs wk1 wk2 wk3 (xs 1) (xs 2) a12 ) zyX8_equal mML_90 a12 zl8 rfl rfl (Nat.le_of_ble_eq_true rfl) ⟨Nat.le_of_ble_eq_true rfl, Nat.le_of_ble_eq_true rfl⟩ ⟨Nat.le_of_ble_eq_true rfl, Nat.le_of_ble_eq_true rfl⟩ dL_law_851 (fun r f13 H locs h14 hz hS => ?_)
  subst h14
  refine lv_icmp_eq (tgt := 1360) hx hb dL_law_854 (by decide) (fun _ => ?_) (fun c15 => absurd rfl c15)
  refine W.widen (k := 200) (n := 20000) (Nat.le_of_ble_eq_true rfl) (Nat.le_of_ble_eq_true rfl) ?_
  exact fin _ _ _ hS (lv_sub hl [0, 3] rfl)
set_option maxHeartbeats 4000000 in
set_option maxRecDepth 100000 in
theorem law_case_17 {p : Program} {l : Launch} {e : Env} {s : State} {m : MethodId} {below : List Frame} {meth : Method} {c : Code} {D : va_G} {cy : Nat → ClassId} {b : Nat} {xs : Nat → Int32} (C : zC D cy p s m #[Value.ref b] meth c RL cL_law 4) (hXs : va_X b 5 xs s s.heap) (hbl : b < s.heap.size) (hbA : ¬ zLA s b) (fin : ∀ (H : Heap) (locs : List Loc) (ls : Array Slot), va_S (zLA s) s.heap H locs → lv_has ls 4 [(0, .ref b), (3, .int 0)] → W p l e room_1 s m #[Value.ref b] below meth c H locs 200 20000 (lw_Z below #[Value.ref b] s) (F0 m 1360 ls [])) {fX f : zM} {o fa fi nu fm co en ke ev al ra kn vq : Nat} {ge : Nat → Option Nat} {ea ma : Nat → Nat} {mo wev wnb wki wmy wce wiw wli wha wwt wfy wfk wem wna wpl whs wk1 wk2 wk3 : Nat} (hXX : zXF cy fX o fa fi nu fm co en ke ev al ra kn vq ge ea ma) (hn_mo : fX mo = none) (hn_wev : fX wev = none) (hn_wnb : fX wnb = none) (hn_wki : fX wki = none) (hn_wmy : fX wmy = none) (hn_wce : fX wce = none) (hn_wiw : fX wiw = none) (hn_wli : fX wli = none) (hn_wha : fX wha = none) (hn_wwt : fX wwt = none) (hn_wfy : fX wfy = none) (hn_wfk : fX wfk = none) (hn_wem : fX wem = none) (hn_wna : fX wna = none) (hn_wpl : fX wpl = none) (hn_whs : fX whs = none) (hn_wk1 : fX wk1 = none) (hn_wk2 : fX wk2 = none) (hn_wk3 : fX wk3 = none) (hXF : zXF cy f o fa fi nu fm co en ke ev al ra kn vq ge ea ma) (hMF : zMF cy f mo wev wnb wki wmy wce wiw wli wha wwt wfy wfk wem wna wpl whs wk1 wk2 wk3) {H : Heap} {locs : List Loc} {ls : Array Slot} (hz : zH D (zLA s) f H) (hS : va_S (zLA s) s.heap H locs) (hl : lv_has ls 4 [(0, .ref b), (1, .ref o), (2, .ref mo), (3, .int 0)]) : W p l e room_1 s m #[Value.ref b] below meth c H locs 100 5000 (lw_Z below #[Value.ref b] s) (F0 m 859 ls []) := by
  have hx := C.1
  have hb := C.2.1
  have hA : ∀ q, s.heap.size ≤ q → zLA s q := fun q h => h
  obtain ⟨px_o, px_fa, px_ev, px_fi, px_al, px_ra, px_nu, px_fm, px_co, px_en, px_ke, har, hG, hE, hM⟩ := hXF
  obtain ⟨pm_mo, pm_wev, pm_wnb, pm_wki, pm_wmy, pm_wce, pm_wiw, pm_wli, pm_wha, pm_wwt, pm_wfy, pm_wfk, pm_wem, pm_wna, pm_wpl, pm_whs, pm_wk1, pm_wk2, pm_wk3, nkm, nlh, nkl, nkh, nml, nmh, nc1, nc2, nc3, nw1, nw2, nw3, nw4⟩ := hMF
  obtain ⟨hx_o, hx_fa, hx_ev, hx_fi, hx_al, hx_ra, hx_nu, hx_fm, hx_co, hx_en, hx_ke, _, _, hxE, hxM⟩ := hXX
  refine lv_aload_n hx hb dL_law_859 rfl (lv_at hl 1 rfl) ?_
  refine lv_aload_n hx hb dL_law_860 rfl (lv_at hl 0 rfl) ?_
  refine lv_iload_n hx hb dL_law_861 rfl (lv_at hl 3 rfl) ?_
  refine lv_iconst (v := 1) hx hb dL_law_862 (by decide) ?_
  refine lv_iadd hx hb dL_law_863 ?_
  refine lv_topi (fun y1 e2 => ?_)
  obtain rfl : y1 = 1 := e2.trans (by decide)
  refine z_sld 1 hx hb hXs hbl hbA hS (by decide) (Nat.le_of_ble_eq_true rfl) (Nat.le_of_ble_eq_true rfl) dL_law_864 ?_
  refine z_callVi (As := [.int (xs 1)]) C hz hS hA hl (k_X7_hash l D cy f o fa fi nu fm co en ke (xs 1) al ra px_o px_fi ) zyX7_hash mML_91 px_o zl7 rfl rfl (Nat.le_of_ble_eq_true rfl) ⟨Nat.le_of_ble_eq_true rfl, Nat.le_of_ble_eq_true rfl⟩ ⟨Nat.le_of_ble_eq_true rfl, Nat.le_of_ble_eq_true rfl⟩ dL_law_865 (fun r f3 H locs h4 hz hS => ?_)
  obtain ⟨rfl, k5⟩ := h4
  refine lv_aload_n hx hb dL_law_868 rfl (lv_at hl 2 rfl) ?_
  refine lv_aload_n hx hb dL_law_869 rfl (lv_at hl 0 rfl) ?_
  refine lv_iload_n hx hb dL_law_870 rfl (lv_at hl 3 rfl) ?_
  refine lv_iconst (v := 1) hx hb dL_law_871 (by decide) ?_
  refine lv_iadd hx hb dL_law_872 ?_
  refine lv_topi (fun y6 e7 => ?_)
  obtain rfl : y6 = 1 := e7.trans (by decide)
  refine z_sld 1 hx hb hXs hbl hbA hS (by decide) (Nat.le_of_ble_eq_true rfl) (Nat.le_of_ble_eq_true rfl) dL_law_873 ?_
  have a8 : f3 mo = some (.inr (8, [.int 0, .int (-1), .int 0, .ref wev, .int 0, .ref wnb, .int 0, .ref wki, .ref wmy, .ref wce, .ref wiw, .ref wli, .ref wha, .ref wwt, .int 0, .ref wfy, .ref wfk, .int 0, .ref wem, .ref wna, .ref wpl, .ref whs, .long 1, .int 0, .ref wk1, .ref wk2, .ref wk3])) := k5 _ _ pm_mo 
  refine z_callVi (As := [.int (xs 1)]) C hz hS hA hl (k_X8_hash l D cy f3 mo wev wnb wki wmy wce wiw wli wha wwt wfy wfk wem wna wpl whs wk1 wk2 wk3 (xs 1) a8 ) zyX8_hash mML_94 a8 zl8 rfl rfl (Nat.le_of_ble_eq_true rfl) ⟨Nat.le_of_ble_eq_true rfl, Nat.le_of_ble_eq_true rfl⟩ ⟨Nat.le_of_ble_eq_true rfl, Nat.le_of_ble_eq_true rfl⟩ dL_law_874 (fun r f9 H locs h10 hz hS => ?_)
  subst h10
  refine lv_icmp_eq (tgt := 1360) hx hb dL_law_877 (by decide) (fun _ => ?_) (fun c11 => absurd rfl c11)
  refine W.widen (k := 200) (n := 20000) (Nat.le_of_ble_eq_true rfl) (Nat.le_of_ble_eq_true rfl) ?_
  exact fin _ _ _ hS (lv_sub hl [0, 3] rfl)
set_option maxHeartbeats 4000000 in
set_option maxRecDepth 100000 in
theorem law_case_18 {p : Program} {l : Launch} {e : Env} {s : State} {m : MethodId} {below : List Frame} {meth : Method} {c : Code} {D : va_G} {cy : Nat → ClassId} {b : Nat} {xs : Nat → Int32} (C : zC D cy p s m #[Value.ref b] meth c RL cL_law 4) (hXs : va_X b 5 xs s s.heap) (hbl : b < s.heap.size) (hbA : ¬ zLA s b) (fin : ∀ (H : Heap) (locs : List Loc) (ls : Array Slot), va_S (zLA s) s.heap H locs → lv_has ls 4 [(0, .ref b), (3, .int 0)] → W p l e room_1 s m #[Value.ref b] below meth c H locs 200 20000 (lw_Z below #[Value.ref b] s) (F0 m 1360 ls [])) {fX f : zM} {o fa fi nu fm co en ke ev al ra kn vq : Nat} {ge : Nat → Option Nat} {ea ma : Nat → Nat} {mo wev wnb wki wmy wce wiw wli wha wwt wfy wfk wem wna wpl whs wk1 wk2 wk3 : Nat} (hXX : zXF cy fX o fa fi nu fm co en ke ev al ra kn vq ge ea ma) (hn_mo : fX mo = none) (hn_wev : fX wev = none) (hn_wnb : fX wnb = none) (hn_wki : fX wki = none) (hn_wmy : fX wmy = none) (hn_wce : fX wce = none) (hn_wiw : fX wiw = none) (hn_wli : fX wli = none) (hn_wha : fX wha = none) (hn_wwt : fX wwt = none) (hn_wfy : fX wfy = none) (hn_wfk : fX wfk = none) (hn_wem : fX wem = none) (hn_wna : fX wna = none) (hn_wpl : fX wpl = none) (hn_whs : fX whs = none) (hn_wk1 : fX wk1 = none) (hn_wk2 : fX wk2 = none) (hn_wk3 : fX wk3 = none) (hXF : zXF cy f o fa fi nu fm co en ke ev al ra kn vq ge ea ma) (hMF : zMF cy f mo wev wnb wki wmy wce wiw wli wha wwt wfy wfk wem wna wpl whs wk1 wk2 wk3) {H : Heap} {locs : List Loc} {ls : Array Slot} (hz : zH D (zLA s) f H) (hS : va_S (zLA s) s.heap H locs) (hl : lv_has ls 4 [(0, .ref b), (1, .ref o), (2, .ref mo), (3, .int 0)]) : W p l e room_1 s m #[Value.ref b] below meth c H locs 100 5000 (lw_Z below #[Value.ref b] s) (F0 m 882 ls []) := by
  have hx := C.1
  have hb := C.2.1
  have hA : ∀ q, s.heap.size ≤ q → zLA s q := fun q h => h
  obtain ⟨px_o, px_fa, px_ev, px_fi, px_al, px_ra, px_nu, px_fm, px_co, px_en, px_ke, har, hG, hE, hM⟩ := hXF
  obtain ⟨pm_mo, pm_wev, pm_wnb, pm_wki, pm_wmy, pm_wce, pm_wiw, pm_wli, pm_wha, pm_wwt, pm_wfy, pm_wfk, pm_wem, pm_wna, pm_wpl, pm_whs, pm_wk1, pm_wk2, pm_wk3, nkm, nlh, nkl, nkh, nml, nmh, nc1, nc2, nc3, nw1, nw2, nw3, nw4⟩ := hMF
  obtain ⟨hx_o, hx_fa, hx_ev, hx_fi, hx_al, hx_ra, hx_nu, hx_fm, hx_co, hx_en, hx_ke, _, _, hxE, hxM⟩ := hXX
  refine lv_aload_n hx hb dL_law_882 rfl (lv_at hl 1 rfl) ?_
  refine lv_aload_n hx hb dL_law_883 rfl (lv_at hl 0 rfl) ?_
  refine lv_iload_n hx hb dL_law_884 rfl (lv_at hl 3 rfl) ?_
  refine lv_iconst (v := 1) hx hb dL_law_885 (by decide) ?_
  refine lv_iadd hx hb dL_law_886 ?_
  refine lv_topi (fun y1 e2 => ?_)
  obtain rfl : y1 = 1 := e2.trans (by decide)
  refine z_sld 1 hx hb hXs hbl hbA hS (by decide) (Nat.le_of_ble_eq_true rfl) (Nat.le_of_ble_eq_true rfl) dL_law_887 ?_
  refine lv_aload_n hx hb dL_law_888 rfl (lv_at hl 0 rfl) ?_
  refine lv_iload_n hx hb dL_law_889 rfl (lv_at hl 3 rfl) ?_
  refine lv_iconst (v := 2) hx hb dL_law_890 (by decide) ?_
  refine lv_iadd hx hb dL_law_891 ?_
  refine lv_topi (fun y3 e4 => ?_)
  obtain rfl : y3 = 2 := e4.trans (by decide)
  refine z_sld 2 hx hb hXs hbl hbA hS (by decide) (Nat.le_of_ble_eq_true rfl) (Nat.le_of_ble_eq_true rfl) dL_law_892 ?_
  refine z_callVi (As := [.int (xs 1), .int (xs 2)]) C hz hS hA hl (k_X7_order l D cy f o fa fi nu fm co en ke (xs 1) (xs 2) al ra px_o px_fi ) zyX7_order mML_95 px_o zl7 rfl rfl (Nat.le_of_ble_eq_true rfl) ⟨Nat.le_of_ble_eq_true rfl, Nat.le_of_ble_eq_true rfl⟩ ⟨Nat.le_of_ble_eq_true rfl, Nat.le_of_ble_eq_true rfl⟩ dL_law_893 (fun r f5 H locs h6 hz hS => ?_)
  obtain ⟨rfl, k7⟩ := h6
  refine lv_aload_n hx hb dL_law_896 rfl (lv_at hl 2 rfl) ?_
  refine lv_aload_n hx hb dL_law_897 rfl (lv_at hl 0 rfl) ?_
  refine lv_iload_n hx hb dL_law_898 rfl (lv_at hl 3 rfl) ?_
  refine lv_iconst (v := 1) hx hb dL_law_899 (by decide) ?_
  refine lv_iadd hx hb dL_law_900 ?_
  refine lv_topi (fun y8 e9 => ?_)
  obtain rfl : y8 = 1 := e9.trans (by decide)
  refine z_sld 1 hx hb hXs hbl hbA hS (by decide) (Nat.le_of_ble_eq_true rfl) (Nat.le_of_ble_eq_true rfl) dL_law_901 ?_
  refine lv_aload_n hx hb dL_law_902 rfl (lv_at hl 0 rfl) ?_
  refine lv_iload_n hx hb dL_law_903 rfl (lv_at hl 3 rfl) ?_
  refine lv_iconst (v := 2) hx hb dL_law_904 (by decide) ?_
  refine lv_iadd hx hb dL_law_905 ?_
  refine lv_topi (fun y10 e11 => ?_)
  obtain rfl : y10 = 2 := e11.trans (by decide)
  refine z_sld 2 hx hb hXs hbl hbA hS (by decide) (Nat.le_of_ble_eq_true rfl) (Nat.le_of_ble_eq_true rfl) dL_law_906 ?_
  have a12 : f5 mo = some (.inr (8, [.int 0, .int (-1), .int 0, .ref wev, .int 0, .ref wnb, .int 0, .ref wki, .ref wmy, .ref wce, .ref wiw, .ref wli, .ref wha, .ref wwt, .int 0, .ref wfy, .ref wfk, .int 0, .ref wem, .ref wna, .ref wpl, .ref whs, .long 1, .int 0, .ref wk1, .ref wk2, .ref wk3])) := k7 _ _ pm_mo 
  refine z_callVi (As := [.int (xs 1), .int (xs 2)]) C hz hS hA hl (k_X8_order l D cy f5 mo wev wnb wki wmy wce wiw wli wha wwt wfy wfk wem wna wpl whs wk1 wk2 wk3 (xs 1) (xs 2) a12 ) zyX8_order mML_98 a12 zl8 rfl rfl (Nat.le_of_ble_eq_true rfl) ⟨Nat.le_of_ble_eq_true rfl, Nat.le_of_ble_eq_true rfl⟩ ⟨Nat.le_of_ble_eq_true rfl, Nat.le_of_ble_eq_true rfl⟩ dL_law_907 (fun r f13 H locs h14 hz hS => ?_)
  subst h14
  refine lv_icmp_eq (tgt := 1360) hx hb dL_law_910 (by decide) (fun _ => ?_) (fun c15 => absurd rfl c15)
  refine W.widen (k := 200) (n := 20000) (Nat.le_of_ble_eq_true rfl) (Nat.le_of_ble_eq_true rfl) ?_
  exact fin _ _ _ hS (lv_sub hl [0, 3] rfl)
set_option maxHeartbeats 4000000 in
set_option maxRecDepth 100000 in
theorem law_case_19 {p : Program} {l : Launch} {e : Env} {s : State} {m : MethodId} {below : List Frame} {meth : Method} {c : Code} {D : va_G} {cy : Nat → ClassId} {b : Nat} {xs : Nat → Int32} (C : zC D cy p s m #[Value.ref b] meth c RL cL_law 4) (hXs : va_X b 5 xs s s.heap) (hbl : b < s.heap.size) (hbA : ¬ zLA s b) (fin : ∀ (H : Heap) (locs : List Loc) (ls : Array Slot), va_S (zLA s) s.heap H locs → lv_has ls 4 [(0, .ref b), (3, .int 0)] → W p l e room_1 s m #[Value.ref b] below meth c H locs 200 20000 (lw_Z below #[Value.ref b] s) (F0 m 1360 ls [])) {fX f : zM} {o fa fi nu fm co en ke ev al ra kn vq : Nat} {ge : Nat → Option Nat} {ea ma : Nat → Nat} {mo wev wnb wki wmy wce wiw wli wha wwt wfy wfk wem wna wpl whs wk1 wk2 wk3 : Nat} (hXX : zXF cy fX o fa fi nu fm co en ke ev al ra kn vq ge ea ma) (hn_mo : fX mo = none) (hn_wev : fX wev = none) (hn_wnb : fX wnb = none) (hn_wki : fX wki = none) (hn_wmy : fX wmy = none) (hn_wce : fX wce = none) (hn_wiw : fX wiw = none) (hn_wli : fX wli = none) (hn_wha : fX wha = none) (hn_wwt : fX wwt = none) (hn_wfy : fX wfy = none) (hn_wfk : fX wfk = none) (hn_wem : fX wem = none) (hn_wna : fX wna = none) (hn_wpl : fX wpl = none) (hn_whs : fX whs = none) (hn_wk1 : fX wk1 = none) (hn_wk2 : fX wk2 = none) (hn_wk3 : fX wk3 = none) (hXF : zXF cy f o fa fi nu fm co en ke ev al ra kn vq ge ea ma) (hMF : zMF cy f mo wev wnb wki wmy wce wiw wli wha wwt wfy wfk wem wna wpl whs wk1 wk2 wk3) {H : Heap} {locs : List Loc} {ls : Array Slot} (hz : zH D (zLA s) f H) (hS : va_S (zLA s) s.heap H locs) (hl : lv_has ls 4 [(0, .ref b), (1, .ref o), (2, .ref mo), (3, .int 0)]) : W p l e room_1 s m #[Value.ref b] below meth c H locs 100 5000 (lw_Z below #[Value.ref b] s) (F0 m 915 ls []) := by
  have hx := C.1
  have hb := C.2.1
  have hA : ∀ q, s.heap.size ≤ q → zLA s q := fun q h => h
  obtain ⟨px_o, px_fa, px_ev, px_fi, px_al, px_ra, px_nu, px_fm, px_co, px_en, px_ke, har, hG, hE, hM⟩ := hXF
  obtain ⟨pm_mo, pm_wev, pm_wnb, pm_wki, pm_wmy, pm_wce, pm_wiw, pm_wli, pm_wha, pm_wwt, pm_wfy, pm_wfk, pm_wem, pm_wna, pm_wpl, pm_whs, pm_wk1, pm_wk2, pm_wk3, nkm, nlh, nkl, nkh, nml, nmh, nc1, nc2, nc3, nw1, nw2, nw3, nw4⟩ := hMF
  obtain ⟨hx_o, hx_fa, hx_ev, hx_fi, hx_al, hx_ra, hx_nu, hx_fm, hx_co, hx_en, hx_ke, _, _, hxE, hxM⟩ := hXX
  refine lv_aload_n hx hb dL_law_915 rfl (lv_at hl 1 rfl) ?_
  refine lv_aload_n hx hb dL_law_916 rfl (lv_at hl 0 rfl) ?_
  refine lv_iload_n hx hb dL_law_917 rfl (lv_at hl 3 rfl) ?_
  refine lv_iconst (v := 1) hx hb dL_law_918 (by decide) ?_
  refine lv_iadd hx hb dL_law_919 ?_
  refine lv_topi (fun y1 e2 => ?_)
  obtain rfl : y1 = 1 := e2.trans (by decide)
  refine z_sld 1 hx hb hXs hbl hbA hS (by decide) (Nat.le_of_ble_eq_true rfl) (Nat.le_of_ble_eq_true rfl) dL_law_920 ?_
  refine z_callVi (As := [.int (xs 1)]) C hz hS hA hl (k_X7_ranked l D cy f o fa fi nu fm co en ke (xs 1) al ra px_o px_fi ) zyX7_ranked mML_99 px_o zl7 rfl rfl (Nat.le_of_ble_eq_true rfl) ⟨Nat.le_of_ble_eq_true rfl, Nat.le_of_ble_eq_true rfl⟩ ⟨Nat.le_of_ble_eq_true rfl, Nat.le_of_ble_eq_true rfl⟩ dL_law_921 (fun r f3 H locs h4 hz hS => ?_)
  obtain ⟨rfl, k5⟩ := h4
  refine lv_aload_n hx hb dL_law_924 rfl (lv_at hl 2 rfl) ?_
  refine lv_aload_n hx hb dL_law_925 rfl (lv_at hl 0 rfl) ?_
  refine lv_iload_n hx hb dL_law_926 rfl (lv_at hl 3 rfl) ?_
  refine lv_iconst (v := 1) hx hb dL_law_927 (by decide) ?_
  refine lv_iadd hx hb dL_law_928 ?_
  refine lv_topi (fun y6 e7 => ?_)
  obtain rfl : y6 = 1 := e7.trans (by decide)
  refine z_sld 1 hx hb hXs hbl hbA hS (by decide) (Nat.le_of_ble_eq_true rfl) (Nat.le_of_ble_eq_true rfl) dL_law_929 ?_
  have a8 : f3 mo = some (.inr (8, [.int 0, .int (-1), .int 0, .ref wev, .int 0, .ref wnb, .int 0, .ref wki, .ref wmy, .ref wce, .ref wiw, .ref wli, .ref wha, .ref wwt, .int 0, .ref wfy, .ref wfk, .int 0, .ref wem, .ref wna, .ref wpl, .ref whs, .long 1, .int 0, .ref wk1, .ref wk2, .ref wk3])) := k5 _ _ pm_mo 
  refine z_callVi (As := [.int (xs 1)]) C hz hS hA hl (k_X8_ranked l D cy f3 mo wev wnb wki wmy wce wiw wli wha wwt wfy wfk wem wna wpl whs wk1 wk2 wk3 (xs 1) a8 ) zyX8_ranked mML_102 a8 zl8 rfl rfl (Nat.le_of_ble_eq_true rfl) ⟨Nat.le_of_ble_eq_true rfl, Nat.le_of_ble_eq_true rfl⟩ ⟨Nat.le_of_ble_eq_true rfl, Nat.le_of_ble_eq_true rfl⟩ dL_law_930 (fun r f9 H locs h10 hz hS => ?_)
  subst h10
  refine lv_icmp_eq (tgt := 1360) hx hb dL_law_933 (by decide) (fun _ => ?_) (fun c11 => absurd rfl c11)
  refine W.widen (k := 200) (n := 20000) (Nat.le_of_ble_eq_true rfl) (Nat.le_of_ble_eq_true rfl) ?_
  exact fin _ _ _ hS (lv_sub hl [0, 3] rfl)
set_option maxHeartbeats 4000000 in
set_option maxRecDepth 100000 in
theorem law_case_20 {p : Program} {l : Launch} {e : Env} {s : State} {m : MethodId} {below : List Frame} {meth : Method} {c : Code} {D : va_G} {cy : Nat → ClassId} {b : Nat} {xs : Nat → Int32} (C : zC D cy p s m #[Value.ref b] meth c RL cL_law 4) (hXs : va_X b 5 xs s s.heap) (hbl : b < s.heap.size) (hbA : ¬ zLA s b) (fin : ∀ (H : Heap) (locs : List Loc) (ls : Array Slot), va_S (zLA s) s.heap H locs → lv_has ls 4 [(0, .ref b), (3, .int 0)] → W p l e room_1 s m #[Value.ref b] below meth c H locs 200 20000 (lw_Z below #[Value.ref b] s) (F0 m 1360 ls [])) {fX f : zM} {o fa fi nu fm co en ke ev al ra kn vq : Nat} {ge : Nat → Option Nat} {ea ma : Nat → Nat} {mo wev wnb wki wmy wce wiw wli wha wwt wfy wfk wem wna wpl whs wk1 wk2 wk3 : Nat} (hXX : zXF cy fX o fa fi nu fm co en ke ev al ra kn vq ge ea ma) (hn_mo : fX mo = none) (hn_wev : fX wev = none) (hn_wnb : fX wnb = none) (hn_wki : fX wki = none) (hn_wmy : fX wmy = none) (hn_wce : fX wce = none) (hn_wiw : fX wiw = none) (hn_wli : fX wli = none) (hn_wha : fX wha = none) (hn_wwt : fX wwt = none) (hn_wfy : fX wfy = none) (hn_wfk : fX wfk = none) (hn_wem : fX wem = none) (hn_wna : fX wna = none) (hn_wpl : fX wpl = none) (hn_whs : fX whs = none) (hn_wk1 : fX wk1 = none) (hn_wk2 : fX wk2 = none) (hn_wk3 : fX wk3 = none) (hXF : zXF cy f o fa fi nu fm co en ke ev al ra kn vq ge ea ma) (hMF : zMF cy f mo wev wnb wki wmy wce wiw wli wha wwt wfy wfk wem wna wpl whs wk1 wk2 wk3) {H : Heap} {locs : List Loc} {ls : Array Slot} (hz : zH D (zLA s) f H) (hS : va_S (zLA s) s.heap H locs) (hl : lv_has ls 4 [(0, .ref b), (1, .ref o), (2, .ref mo), (3, .int 0)]) : W p l e room_1 s m #[Value.ref b] below meth c H locs 100 5000 (lw_Z below #[Value.ref b] s) (F0 m 938 ls []) := by
  have hx := C.1
  have hb := C.2.1
  have hA : ∀ q, s.heap.size ≤ q → zLA s q := fun q h => h
  obtain ⟨px_o, px_fa, px_ev, px_fi, px_al, px_ra, px_nu, px_fm, px_co, px_en, px_ke, har, hG, hE, hM⟩ := hXF
  obtain ⟨pm_mo, pm_wev, pm_wnb, pm_wki, pm_wmy, pm_wce, pm_wiw, pm_wli, pm_wha, pm_wwt, pm_wfy, pm_wfk, pm_wem, pm_wna, pm_wpl, pm_whs, pm_wk1, pm_wk2, pm_wk3, nkm, nlh, nkl, nkh, nml, nmh, nc1, nc2, nc3, nw1, nw2, nw3, nw4⟩ := hMF
  obtain ⟨hx_o, hx_fa, hx_ev, hx_fi, hx_al, hx_ra, hx_nu, hx_fm, hx_co, hx_en, hx_ke, _, _, hxE, hxM⟩ := hXX
  refine lv_aload_n hx hb dL_law_938 rfl (lv_at hl 1 rfl) ?_
  refine lv_aload_n hx hb dL_law_939 rfl (lv_at hl 0 rfl) ?_
  refine lv_iload_n hx hb dL_law_940 rfl (lv_at hl 3 rfl) ?_
  refine lv_iconst (v := 1) hx hb dL_law_941 (by decide) ?_
  refine lv_iadd hx hb dL_law_942 ?_
  refine lv_topi (fun y1 e2 => ?_)
  obtain rfl : y1 = 1 := e2.trans (by decide)
  refine z_sld 1 hx hb hXs hbl hbA hS (by decide) (Nat.le_of_ble_eq_true rfl) (Nat.le_of_ble_eq_true rfl) dL_law_943 ?_
  refine z_callVi (As := [.int (xs 1)]) C hz hS hA hl (k_X7_first l D cy f o fa fi nu fm co en ke (xs 1) al ra px_o px_fi ) zyX7_first mML_103 px_o zl7 rfl rfl (Nat.le_of_ble_eq_true rfl) ⟨Nat.le_of_ble_eq_true rfl, Nat.le_of_ble_eq_true rfl⟩ ⟨Nat.le_of_ble_eq_true rfl, Nat.le_of_ble_eq_true rfl⟩ dL_law_944 (fun r f3 H locs h4 hz hS => ?_)
  obtain ⟨rfl, k5⟩ := h4
  refine lv_aload_n hx hb dL_law_947 rfl (lv_at hl 2 rfl) ?_
  refine lv_aload_n hx hb dL_law_948 rfl (lv_at hl 0 rfl) ?_
  refine lv_iload_n hx hb dL_law_949 rfl (lv_at hl 3 rfl) ?_
  refine lv_iconst (v := 1) hx hb dL_law_950 (by decide) ?_
  refine lv_iadd hx hb dL_law_951 ?_
  refine lv_topi (fun y6 e7 => ?_)
  obtain rfl : y6 = 1 := e7.trans (by decide)
  refine z_sld 1 hx hb hXs hbl hbA hS (by decide) (Nat.le_of_ble_eq_true rfl) (Nat.le_of_ble_eq_true rfl) dL_law_952 ?_
  have a8 : f3 mo = some (.inr (8, [.int 0, .int (-1), .int 0, .ref wev, .int 0, .ref wnb, .int 0, .ref wki, .ref wmy, .ref wce, .ref wiw, .ref wli, .ref wha, .ref wwt, .int 0, .ref wfy, .ref wfk, .int 0, .ref wem, .ref wna, .ref wpl, .ref whs, .long 1, .int 0, .ref wk1, .ref wk2, .ref wk3])) := k5 _ _ pm_mo 
  refine z_callVi (As := [.int (xs 1)]) C hz hS hA hl (k_X8_first l D cy f3 mo wev wnb wki wmy wce wiw wli wha wwt wfy wfk wem wna wpl whs wk1 wk2 wk3 (xs 1) a8 ) zyX8_first mML_106 a8 zl8 rfl rfl (Nat.le_of_ble_eq_true rfl) ⟨Nat.le_of_ble_eq_true rfl, Nat.le_of_ble_eq_true rfl⟩ ⟨Nat.le_of_ble_eq_true rfl, Nat.le_of_ble_eq_true rfl⟩ dL_law_953 (fun r f9 H locs h10 hz hS => ?_)
  subst h10
  refine lv_icmp_eq (tgt := 1360) hx hb dL_law_956 (by decide) (fun _ => ?_) (fun c11 => absurd rfl c11)
  refine W.widen (k := 200) (n := 20000) (Nat.le_of_ble_eq_true rfl) (Nat.le_of_ble_eq_true rfl) ?_
  exact fin _ _ _ hS (lv_sub hl [0, 3] rfl)
set_option maxHeartbeats 4000000 in
set_option maxRecDepth 100000 in
theorem law_case_21 {p : Program} {l : Launch} {e : Env} {s : State} {m : MethodId} {below : List Frame} {meth : Method} {c : Code} {D : va_G} {cy : Nat → ClassId} {b : Nat} {xs : Nat → Int32} (C : zC D cy p s m #[Value.ref b] meth c RL cL_law 4) (hXs : va_X b 5 xs s s.heap) (hbl : b < s.heap.size) (hbA : ¬ zLA s b) (fin : ∀ (H : Heap) (locs : List Loc) (ls : Array Slot), va_S (zLA s) s.heap H locs → lv_has ls 4 [(0, .ref b), (3, .int 0)] → W p l e room_1 s m #[Value.ref b] below meth c H locs 200 20000 (lw_Z below #[Value.ref b] s) (F0 m 1360 ls [])) {fX f : zM} {o fa fi nu fm co en ke ev al ra kn vq : Nat} {ge : Nat → Option Nat} {ea ma : Nat → Nat} {mo wev wnb wki wmy wce wiw wli wha wwt wfy wfk wem wna wpl whs wk1 wk2 wk3 : Nat} (hXX : zXF cy fX o fa fi nu fm co en ke ev al ra kn vq ge ea ma) (hn_mo : fX mo = none) (hn_wev : fX wev = none) (hn_wnb : fX wnb = none) (hn_wki : fX wki = none) (hn_wmy : fX wmy = none) (hn_wce : fX wce = none) (hn_wiw : fX wiw = none) (hn_wli : fX wli = none) (hn_wha : fX wha = none) (hn_wwt : fX wwt = none) (hn_wfy : fX wfy = none) (hn_wfk : fX wfk = none) (hn_wem : fX wem = none) (hn_wna : fX wna = none) (hn_wpl : fX wpl = none) (hn_whs : fX whs = none) (hn_wk1 : fX wk1 = none) (hn_wk2 : fX wk2 = none) (hn_wk3 : fX wk3 = none) (hXF : zXF cy f o fa fi nu fm co en ke ev al ra kn vq ge ea ma) (hMF : zMF cy f mo wev wnb wki wmy wce wiw wli wha wwt wfy wfk wem wna wpl whs wk1 wk2 wk3) {H : Heap} {locs : List Loc} {ls : Array Slot} (hz : zH D (zLA s) f H) (hS : va_S (zLA s) s.heap H locs) (hl : lv_has ls 4 [(0, .ref b), (1, .ref o), (2, .ref mo), (3, .int 0)]) : W p l e room_1 s m #[Value.ref b] below meth c H locs 100 5000 (lw_Z below #[Value.ref b] s) (F0 m 961 ls []) := by
  have hx := C.1
  have hb := C.2.1
  have hA : ∀ q, s.heap.size ≤ q → zLA s q := fun q h => h
  obtain ⟨px_o, px_fa, px_ev, px_fi, px_al, px_ra, px_nu, px_fm, px_co, px_en, px_ke, har, hG, hE, hM⟩ := hXF
  obtain ⟨pm_mo, pm_wev, pm_wnb, pm_wki, pm_wmy, pm_wce, pm_wiw, pm_wli, pm_wha, pm_wwt, pm_wfy, pm_wfk, pm_wem, pm_wna, pm_wpl, pm_whs, pm_wk1, pm_wk2, pm_wk3, nkm, nlh, nkl, nkh, nml, nmh, nc1, nc2, nc3, nw1, nw2, nw3, nw4⟩ := hMF
  obtain ⟨hx_o, hx_fa, hx_ev, hx_fi, hx_al, hx_ra, hx_nu, hx_fm, hx_co, hx_en, hx_ke, _, _, hxE, hxM⟩ := hXX
  refine lv_aload_n hx hb dL_law_961 rfl (lv_at hl 1 rfl) ?_
  refine lv_aload_n hx hb dL_law_962 rfl (lv_at hl 0 rfl) ?_
  refine lv_iload_n hx hb dL_law_963 rfl (lv_at hl 3 rfl) ?_
  refine lv_iconst (v := 1) hx hb dL_law_964 (by decide) ?_
  refine lv_iadd hx hb dL_law_965 ?_
  refine lv_topi (fun y1 e2 => ?_)
  obtain rfl : y1 = 1 := e2.trans (by decide)
  refine z_sld 1 hx hb hXs hbl hbA hS (by decide) (Nat.le_of_ble_eq_true rfl) (Nat.le_of_ble_eq_true rfl) dL_law_966 ?_
  refine lv_aload_n hx hb dL_law_967 rfl (lv_at hl 0 rfl) ?_
  refine lv_iload_n hx hb dL_law_968 rfl (lv_at hl 3 rfl) ?_
  refine lv_iconst (v := 2) hx hb dL_law_969 (by decide) ?_
  refine lv_iadd hx hb dL_law_970 ?_
  refine lv_topi (fun y3 e4 => ?_)
  obtain rfl : y3 = 2 := e4.trans (by decide)
  refine z_sld 2 hx hb hXs hbl hbA hS (by decide) (Nat.le_of_ble_eq_true rfl) (Nat.le_of_ble_eq_true rfl) dL_law_971 ?_
  refine lv_aload_n hx hb dL_law_972 rfl (lv_at hl 0 rfl) ?_
  refine lv_iload_n hx hb dL_law_973 rfl (lv_at hl 3 rfl) ?_
  refine lv_iconst (v := 3) hx hb dL_law_974 (by decide) ?_
  refine lv_iadd hx hb dL_law_975 ?_
  refine lv_topi (fun y5 e6 => ?_)
  obtain rfl : y5 = 3 := e6.trans (by decide)
  refine z_sld 3 hx hb hXs hbl hbA hS (by decide) (Nat.le_of_ble_eq_true rfl) (Nat.le_of_ble_eq_true rfl) dL_law_976 ?_
  refine lv_aload_n hx hb dL_law_977 rfl (lv_at hl 0 rfl) ?_
  refine lv_iload_n hx hb dL_law_978 rfl (lv_at hl 3 rfl) ?_
  refine lv_iconst (v := 4) hx hb dL_law_979 (by decide) ?_
  refine lv_iadd hx hb dL_law_980 ?_
  refine lv_topi (fun y7 e8 => ?_)
  obtain rfl : y7 = 4 := e8.trans (by decide)
  refine z_sld 4 hx hb hXs hbl hbA hS (by decide) (Nat.le_of_ble_eq_true rfl) (Nat.le_of_ble_eq_true rfl) dL_law_981 ?_
  refine z_callVi (As := [.int (xs 1), .int (xs 2), .int (xs 3), .int (xs 4)]) C hz hS hA hl (k_X7_family l D cy f o fa fi nu fm co en ke (xs 1) (xs 2) (xs 3) (xs 4) (fun _ => none) px_o px_fm ) zyX7_family mML_107 px_o zl7 rfl rfl (Nat.le_of_ble_eq_true rfl) ⟨Nat.le_of_ble_eq_true rfl, Nat.le_of_ble_eq_true rfl⟩ ⟨Nat.le_of_ble_eq_true rfl, Nat.le_of_ble_eq_true rfl⟩ dL_law_982 (fun r f9 H locs h10 hz hS => ?_)
  obtain ⟨rfl, k11⟩ := h10
  refine lv_aload_n hx hb dL_law_985 rfl (lv_at hl 2 rfl) ?_
  refine lv_aload_n hx hb dL_law_986 rfl (lv_at hl 0 rfl) ?_
  refine lv_iload_n hx hb dL_law_987 rfl (lv_at hl 3 rfl) ?_
  refine lv_iconst (v := 1) hx hb dL_law_988 (by decide) ?_
  refine lv_iadd hx hb dL_law_989 ?_
  refine lv_topi (fun y12 e13 => ?_)
  obtain rfl : y12 = 1 := e13.trans (by decide)
  refine z_sld 1 hx hb hXs hbl hbA hS (by decide) (Nat.le_of_ble_eq_true rfl) (Nat.le_of_ble_eq_true rfl) dL_law_990 ?_
  refine lv_aload_n hx hb dL_law_991 rfl (lv_at hl 0 rfl) ?_
  refine lv_iload_n hx hb dL_law_992 rfl (lv_at hl 3 rfl) ?_
  refine lv_iconst (v := 2) hx hb dL_law_993 (by decide) ?_
  refine lv_iadd hx hb dL_law_994 ?_
  refine lv_topi (fun y14 e15 => ?_)
  obtain rfl : y14 = 2 := e15.trans (by decide)
  refine z_sld 2 hx hb hXs hbl hbA hS (by decide) (Nat.le_of_ble_eq_true rfl) (Nat.le_of_ble_eq_true rfl) dL_law_995 ?_
  refine lv_aload_n hx hb dL_law_996 rfl (lv_at hl 0 rfl) ?_
  refine lv_iload_n hx hb dL_law_997 rfl (lv_at hl 3 rfl) ?_
  refine lv_iconst (v := 3) hx hb dL_law_998 (by decide) ?_
  refine lv_iadd hx hb dL_law_999 ?_
  refine lv_topi (fun y16 e17 => ?_)
  obtain rfl : y16 = 3 := e17.trans (by decide)
  refine z_sld 3 hx hb hXs hbl hbA hS (by decide) (Nat.le_of_ble_eq_true rfl) (Nat.le_of_ble_eq_true rfl) dL_law_1000 ?_
  refine lv_aload_n hx hb dL_law_1001 rfl (lv_at hl 0 rfl) ?_
  refine lv_iload_n hx hb dL_law_1002 rfl (lv_at hl 3 rfl) ?_
  refine lv_iconst (v := 4) hx hb dL_law_1003 (by decide) ?_
  refine lv_iadd hx hb dL_law_1004 ?_
  refine lv_topi (fun y18 e19 => ?_)
  obtain rfl : y18 = 4 := e19.trans (by decide)
  refine z_sld 4 hx hb hXs hbl hbA hS (by decide) (Nat.le_of_ble_eq_true rfl) (Nat.le_of_ble_eq_true rfl) dL_law_1005 ?_
  have a20 : f9 mo = some (.inr (8, [.int 0, .int (-1), .int 0, .ref wev, .int 0, .ref wnb, .int 0, .ref wki, .ref wmy, .ref wce, .ref wiw, .ref wli, .ref wha, .ref wwt, .int 0, .ref wfy, .ref wfk, .int 0, .ref wem, .ref wna, .ref wpl, .ref whs, .long 1, .int 0, .ref wk1, .ref wk2, .ref wk3])) := k11 _ _ pm_mo (Ne.symm (z_nn hn_mo hx_o)) (Ne.symm (z_nn hn_mo hx_fm))
  have a21 : f9 wfk = some (.inl (cy 0, 24, .inl (fun _ => 0))) := k11 _ _ pm_wfk (Ne.symm (z_nn hn_wfk hx_o)) (Ne.symm (z_nn hn_wfk hx_fm))
  have a22 : f9 wfy = some (.inl (cy 0, 6, .inl (fun _ => 0))) := k11 _ _ pm_wfy (Ne.symm (z_nn hn_wfy hx_o)) (Ne.symm (z_nn hn_wfy hx_fm))
  refine z_callVi (As := [.int (xs 1), .int (xs 2), .int (xs 3), .int (xs 4)]) C hz hS hA hl (k_X8_family l D cy f9 mo wev wnb wki wmy wce wiw wli wha wwt wfy wfk wem wna wpl whs wk1 wk2 wk3 (xs 1) (xs 2) (xs 3) (xs 4) (fun _ => 0) (fun _ => 0) a20 a21 a22 ) zyX8_family mML_111 a20 zl8 rfl rfl (Nat.le_of_ble_eq_true rfl) ⟨Nat.le_of_ble_eq_true rfl, Nat.le_of_ble_eq_true rfl⟩ ⟨Nat.le_of_ble_eq_true rfl, Nat.le_of_ble_eq_true rfl⟩ dL_law_1006 (fun r f23 H locs h24 hz hS => ?_)
  subst h24
  refine lv_icmp_eq (tgt := 1360) hx hb dL_law_1009 (by decide) (fun _ => ?_) (fun c25 => absurd rfl c25)
  refine W.widen (k := 200) (n := 20000) (Nat.le_of_ble_eq_true rfl) (Nat.le_of_ble_eq_true rfl) ?_
  exact fin _ _ _ hS (lv_sub hl [0, 3] rfl)
set_option maxHeartbeats 4000000 in
set_option maxRecDepth 100000 in
theorem law_case_22 {p : Program} {l : Launch} {e : Env} {s : State} {m : MethodId} {below : List Frame} {meth : Method} {c : Code} {D : va_G} {cy : Nat → ClassId} {b : Nat} {xs : Nat → Int32} (C : zC D cy p s m #[Value.ref b] meth c RL cL_law 4) (hXs : va_X b 5 xs s s.heap) (hbl : b < s.heap.size) (hbA : ¬ zLA s b) (fin : ∀ (H : Heap) (locs : List Loc) (ls : Array Slot), va_S (zLA s) s.heap H locs → lv_has ls 4 [(0, .ref b), (3, .int 0)] → W p l e room_1 s m #[Value.ref b] below meth c H locs 200 20000 (lw_Z below #[Value.ref b] s) (F0 m 1360 ls [])) {fX f : zM} {o fa fi nu fm co en ke ev al ra kn vq : Nat} {ge : Nat → Option Nat} {ea ma : Nat → Nat} {mo wev wnb wki wmy wce wiw wli wha wwt wfy wfk wem wna wpl whs wk1 wk2 wk3 : Nat} (hXX : zXF cy fX o fa fi nu fm co en ke ev al ra kn vq ge ea ma) (hn_mo : fX mo = none) (hn_wev : fX wev = none) (hn_wnb : fX wnb = none) (hn_wki : fX wki = none) (hn_wmy : fX wmy = none) (hn_wce : fX wce = none) (hn_wiw : fX wiw = none) (hn_wli : fX wli = none) (hn_wha : fX wha = none) (hn_wwt : fX wwt = none) (hn_wfy : fX wfy = none) (hn_wfk : fX wfk = none) (hn_wem : fX wem = none) (hn_wna : fX wna = none) (hn_wpl : fX wpl = none) (hn_whs : fX whs = none) (hn_wk1 : fX wk1 = none) (hn_wk2 : fX wk2 = none) (hn_wk3 : fX wk3 = none) (hXF : zXF cy f o fa fi nu fm co en ke ev al ra kn vq ge ea ma) (hMF : zMF cy f mo wev wnb wki wmy wce wiw wli wha wwt wfy wfk wem wna wpl whs wk1 wk2 wk3) {H : Heap} {locs : List Loc} {ls : Array Slot} (hz : zH D (zLA s) f H) (hS : va_S (zLA s) s.heap H locs) (hl : lv_has ls 4 [(0, .ref b), (1, .ref o), (2, .ref mo), (3, .int 0)]) : W p l e room_1 s m #[Value.ref b] below meth c H locs 100 5000 (lw_Z below #[Value.ref b] s) (F0 m 1014 ls []) := by
  have hx := C.1
  have hb := C.2.1
  have hA : ∀ q, s.heap.size ≤ q → zLA s q := fun q h => h
  obtain ⟨px_o, px_fa, px_ev, px_fi, px_al, px_ra, px_nu, px_fm, px_co, px_en, px_ke, har, hG, hE, hM⟩ := hXF
  obtain ⟨pm_mo, pm_wev, pm_wnb, pm_wki, pm_wmy, pm_wce, pm_wiw, pm_wli, pm_wha, pm_wwt, pm_wfy, pm_wfk, pm_wem, pm_wna, pm_wpl, pm_whs, pm_wk1, pm_wk2, pm_wk3, nkm, nlh, nkl, nkh, nml, nmh, nc1, nc2, nc3, nw1, nw2, nw3, nw4⟩ := hMF
  obtain ⟨hx_o, hx_fa, hx_ev, hx_fi, hx_al, hx_ra, hx_nu, hx_fm, hx_co, hx_en, hx_ke, _, _, hxE, hxM⟩ := hXX
  refine lv_aload_n hx hb dL_law_1014 rfl (lv_at hl 1 rfl) ?_
  refine lv_aload_n hx hb dL_law_1015 rfl (lv_at hl 0 rfl) ?_
  refine lv_iload_n hx hb dL_law_1016 rfl (lv_at hl 3 rfl) ?_
  refine lv_iconst (v := 1) hx hb dL_law_1017 (by decide) ?_
  refine lv_iadd hx hb dL_law_1018 ?_
  refine lv_topi (fun y1 e2 => ?_)
  obtain rfl : y1 = 1 := e2.trans (by decide)
  refine z_sld 1 hx hb hXs hbl hbA hS (by decide) (Nat.le_of_ble_eq_true rfl) (Nat.le_of_ble_eq_true rfl) dL_law_1019 ?_
  refine lv_aload_n hx hb dL_law_1020 rfl (lv_at hl 0 rfl) ?_
  refine lv_iload_n hx hb dL_law_1021 rfl (lv_at hl 3 rfl) ?_
  refine lv_iconst (v := 2) hx hb dL_law_1022 (by decide) ?_
  refine lv_iadd hx hb dL_law_1023 ?_
  refine lv_topi (fun y3 e4 => ?_)
  obtain rfl : y3 = 2 := e4.trans (by decide)
  refine z_sld 2 hx hb hXs hbl hbA hS (by decide) (Nat.le_of_ble_eq_true rfl) (Nat.le_of_ble_eq_true rfl) dL_law_1024 ?_
  refine z_callVi (As := [.int (xs 1), .int (xs 2)]) C hz hS hA hl (k_X7_tag l D cy f o fa fi nu fm co en ke (xs 1) (xs 2) al ra px_o px_fi ) zyX7_tag mML_112 px_o zl7 rfl rfl (Nat.le_of_ble_eq_true rfl) ⟨Nat.le_of_ble_eq_true rfl, Nat.le_of_ble_eq_true rfl⟩ ⟨Nat.le_of_ble_eq_true rfl, Nat.le_of_ble_eq_true rfl⟩ dL_law_1025 (fun r f5 H locs h6 hz hS => ?_)
  obtain ⟨rfl, k7⟩ := h6
  refine lv_aload_n hx hb dL_law_1028 rfl (lv_at hl 2 rfl) ?_
  refine lv_aload_n hx hb dL_law_1029 rfl (lv_at hl 0 rfl) ?_
  refine lv_iload_n hx hb dL_law_1030 rfl (lv_at hl 3 rfl) ?_
  refine lv_iconst (v := 1) hx hb dL_law_1031 (by decide) ?_
  refine lv_iadd hx hb dL_law_1032 ?_
  refine lv_topi (fun y8 e9 => ?_)
  obtain rfl : y8 = 1 := e9.trans (by decide)
  refine z_sld 1 hx hb hXs hbl hbA hS (by decide) (Nat.le_of_ble_eq_true rfl) (Nat.le_of_ble_eq_true rfl) dL_law_1033 ?_
  refine lv_aload_n hx hb dL_law_1034 rfl (lv_at hl 0 rfl) ?_
  refine lv_iload_n hx hb dL_law_1035 rfl (lv_at hl 3 rfl) ?_
  refine lv_iconst (v := 2) hx hb dL_law_1036 (by decide) ?_
  refine lv_iadd hx hb dL_law_1037 ?_
  refine lv_topi (fun y10 e11 => ?_)
  obtain rfl : y10 = 2 := e11.trans (by decide)
  refine z_sld 2 hx hb hXs hbl hbA hS (by decide) (Nat.le_of_ble_eq_true rfl) (Nat.le_of_ble_eq_true rfl) dL_law_1038 ?_
  have a12 : f5 mo = some (.inr (8, [.int 0, .int (-1), .int 0, .ref wev, .int 0, .ref wnb, .int 0, .ref wki, .ref wmy, .ref wce, .ref wiw, .ref wli, .ref wha, .ref wwt, .int 0, .ref wfy, .ref wfk, .int 0, .ref wem, .ref wna, .ref wpl, .ref whs, .long 1, .int 0, .ref wk1, .ref wk2, .ref wk3])) := k7 _ _ pm_mo 
  refine z_callVi (As := [.int (xs 1), .int (xs 2)]) C hz hS hA hl (k_X8_tag l D cy f5 mo wev wnb wki wmy wce wiw wli wha wwt wfy wfk wem wna wpl whs wk1 wk2 wk3 (xs 1) (xs 2) a12 ) zyX8_tag mML_115 a12 zl8 rfl rfl (Nat.le_of_ble_eq_true rfl) ⟨Nat.le_of_ble_eq_true rfl, Nat.le_of_ble_eq_true rfl⟩ ⟨Nat.le_of_ble_eq_true rfl, Nat.le_of_ble_eq_true rfl⟩ dL_law_1039 (fun r f13 H locs h14 hz hS => ?_)
  subst h14
  refine lv_icmp_eq (tgt := 1360) hx hb dL_law_1042 (by decide) (fun _ => ?_) (fun c15 => absurd rfl c15)
  refine W.widen (k := 200) (n := 20000) (Nat.le_of_ble_eq_true rfl) (Nat.le_of_ble_eq_true rfl) ?_
  exact fin _ _ _ hS (lv_sub hl [0, 3] rfl)
set_option maxHeartbeats 4000000 in
set_option maxRecDepth 100000 in
theorem law_case_23 {p : Program} {l : Launch} {e : Env} {s : State} {m : MethodId} {below : List Frame} {meth : Method} {c : Code} {D : va_G} {cy : Nat → ClassId} {b : Nat} {xs : Nat → Int32} (C : zC D cy p s m #[Value.ref b] meth c RL cL_law 4) (hXs : va_X b 5 xs s s.heap) (hbl : b < s.heap.size) (hbA : ¬ zLA s b) (fin : ∀ (H : Heap) (locs : List Loc) (ls : Array Slot), va_S (zLA s) s.heap H locs → lv_has ls 4 [(0, .ref b), (3, .int 0)] → W p l e room_1 s m #[Value.ref b] below meth c H locs 200 20000 (lw_Z below #[Value.ref b] s) (F0 m 1360 ls [])) {fX f : zM} {o fa fi nu fm co en ke ev al ra kn vq : Nat} {ge : Nat → Option Nat} {ea ma : Nat → Nat} {mo wev wnb wki wmy wce wiw wli wha wwt wfy wfk wem wna wpl whs wk1 wk2 wk3 : Nat} (hXX : zXF cy fX o fa fi nu fm co en ke ev al ra kn vq ge ea ma) (hn_mo : fX mo = none) (hn_wev : fX wev = none) (hn_wnb : fX wnb = none) (hn_wki : fX wki = none) (hn_wmy : fX wmy = none) (hn_wce : fX wce = none) (hn_wiw : fX wiw = none) (hn_wli : fX wli = none) (hn_wha : fX wha = none) (hn_wwt : fX wwt = none) (hn_wfy : fX wfy = none) (hn_wfk : fX wfk = none) (hn_wem : fX wem = none) (hn_wna : fX wna = none) (hn_wpl : fX wpl = none) (hn_whs : fX whs = none) (hn_wk1 : fX wk1 = none) (hn_wk2 : fX wk2 = none) (hn_wk3 : fX wk3 = none) (hXF : zXF cy f o fa fi nu fm co en ke ev al ra kn vq ge ea ma) (hMF : zMF cy f mo wev wnb wki wmy wce wiw wli wha wwt wfy wfk wem wna wpl whs wk1 wk2 wk3) {H : Heap} {locs : List Loc} {ls : Array Slot} (hz : zH D (zLA s) f H) (hS : va_S (zLA s) s.heap H locs) (hl : lv_has ls 4 [(0, .ref b), (1, .ref o), (2, .ref mo), (3, .int 0)]) : W p l e room_1 s m #[Value.ref b] below meth c H locs 100 5000 (lw_Z below #[Value.ref b] s) (F0 m 1047 ls []) := by
  have hx := C.1
  have hb := C.2.1
  have hA : ∀ q, s.heap.size ≤ q → zLA s q := fun q h => h
  obtain ⟨px_o, px_fa, px_ev, px_fi, px_al, px_ra, px_nu, px_fm, px_co, px_en, px_ke, har, hG, hE, hM⟩ := hXF
  obtain ⟨pm_mo, pm_wev, pm_wnb, pm_wki, pm_wmy, pm_wce, pm_wiw, pm_wli, pm_wha, pm_wwt, pm_wfy, pm_wfk, pm_wem, pm_wna, pm_wpl, pm_whs, pm_wk1, pm_wk2, pm_wk3, nkm, nlh, nkl, nkh, nml, nmh, nc1, nc2, nc3, nw1, nw2, nw3, nw4⟩ := hMF
  obtain ⟨hx_o, hx_fa, hx_ev, hx_fi, hx_al, hx_ra, hx_nu, hx_fm, hx_co, hx_en, hx_ke, _, _, hxE, hxM⟩ := hXX
  refine lv_aload_n hx hb dL_law_1047 rfl (lv_at hl 1 rfl) ?_
  refine lv_aload_n hx hb dL_law_1048 rfl (lv_at hl 0 rfl) ?_
  refine lv_iload_n hx hb dL_law_1049 rfl (lv_at hl 3 rfl) ?_
  refine lv_iconst (v := 1) hx hb dL_law_1050 (by decide) ?_
  refine lv_iadd hx hb dL_law_1051 ?_
  refine lv_topi (fun y1 e2 => ?_)
  obtain rfl : y1 = 1 := e2.trans (by decide)
  refine z_sld 1 hx hb hXs hbl hbA hS (by decide) (Nat.le_of_ble_eq_true rfl) (Nat.le_of_ble_eq_true rfl) dL_law_1052 ?_
  refine lv_aload_n hx hb dL_law_1053 rfl (lv_at hl 0 rfl) ?_
  refine lv_iload_n hx hb dL_law_1054 rfl (lv_at hl 3 rfl) ?_
  refine lv_iconst (v := 2) hx hb dL_law_1055 (by decide) ?_
  refine lv_iadd hx hb dL_law_1056 ?_
  refine lv_topi (fun y3 e4 => ?_)
  obtain rfl : y3 = 2 := e4.trans (by decide)
  refine z_sld 2 hx hb hXs hbl hbA hS (by decide) (Nat.le_of_ble_eq_true rfl) (Nat.le_of_ble_eq_true rfl) dL_law_1057 ?_
  refine z_callVi (As := [.int (xs 1), .int (xs 2)]) C hz hS hA hl (k_X7_tagged l D cy f o fa fi nu fm co en ke (xs 1) (xs 2) px_o ) zyX7_tagged mML_116 px_o zl7 rfl rfl (Nat.le_of_ble_eq_true rfl) ⟨Nat.le_of_ble_eq_true rfl, Nat.le_of_ble_eq_true rfl⟩ ⟨Nat.le_of_ble_eq_true rfl, Nat.le_of_ble_eq_true rfl⟩ dL_law_1058 (fun r f5 H locs h6 hz hS => ?_)
  obtain ⟨rfl, k7⟩ := h6
  refine lv_aload_n hx hb dL_law_1061 rfl (lv_at hl 2 rfl) ?_
  refine lv_aload_n hx hb dL_law_1062 rfl (lv_at hl 0 rfl) ?_
  refine lv_iload_n hx hb dL_law_1063 rfl (lv_at hl 3 rfl) ?_
  refine lv_iconst (v := 1) hx hb dL_law_1064 (by decide) ?_
  refine lv_iadd hx hb dL_law_1065 ?_
  refine lv_topi (fun y8 e9 => ?_)
  obtain rfl : y8 = 1 := e9.trans (by decide)
  refine z_sld 1 hx hb hXs hbl hbA hS (by decide) (Nat.le_of_ble_eq_true rfl) (Nat.le_of_ble_eq_true rfl) dL_law_1066 ?_
  refine lv_aload_n hx hb dL_law_1067 rfl (lv_at hl 0 rfl) ?_
  refine lv_iload_n hx hb dL_law_1068 rfl (lv_at hl 3 rfl) ?_
  refine lv_iconst (v := 2) hx hb dL_law_1069 (by decide) ?_
  refine lv_iadd hx hb dL_law_1070 ?_
  refine lv_topi (fun y10 e11 => ?_)
  obtain rfl : y10 = 2 := e11.trans (by decide)
  refine z_sld 2 hx hb hXs hbl hbA hS (by decide) (Nat.le_of_ble_eq_true rfl) (Nat.le_of_ble_eq_true rfl) dL_law_1071 ?_
  have a12 : f5 mo = some (.inr (8, [.int 0, .int (-1), .int 0, .ref wev, .int 0, .ref wnb, .int 0, .ref wki, .ref wmy, .ref wce, .ref wiw, .ref wli, .ref wha, .ref wwt, .int 0, .ref wfy, .ref wfk, .int 0, .ref wem, .ref wna, .ref wpl, .ref whs, .long 1, .int 0, .ref wk1, .ref wk2, .ref wk3])) := k7 _ _ pm_mo 
  refine z_callVi (As := [.int (xs 1), .int (xs 2)]) C hz hS hA hl (k_X8_tagged l D cy f5 mo wev wnb wki wmy wce wiw wli wha wwt wfy wfk wem wna wpl whs wk1 wk2 wk3 (xs 1) (xs 2) a12 ) zyX8_tagged mML_119 a12 zl8 rfl rfl (Nat.le_of_ble_eq_true rfl) ⟨Nat.le_of_ble_eq_true rfl, Nat.le_of_ble_eq_true rfl⟩ ⟨Nat.le_of_ble_eq_true rfl, Nat.le_of_ble_eq_true rfl⟩ dL_law_1072 (fun r f13 H locs h14 hz hS => ?_)
  subst h14
  refine lv_icmp_eq (tgt := 1360) hx hb dL_law_1075 (by decide) (fun _ => ?_) (fun c15 => absurd rfl c15)
  refine W.widen (k := 200) (n := 20000) (Nat.le_of_ble_eq_true rfl) (Nat.le_of_ble_eq_true rfl) ?_
  exact fin _ _ _ hS (lv_sub hl [0, 3] rfl)
set_option maxHeartbeats 4000000 in
set_option maxRecDepth 100000 in
theorem law_case_24 {p : Program} {l : Launch} {e : Env} {s : State} {m : MethodId} {below : List Frame} {meth : Method} {c : Code} {D : va_G} {cy : Nat → ClassId} {b : Nat} {xs : Nat → Int32} (C : zC D cy p s m #[Value.ref b] meth c RL cL_law 4) (hXs : va_X b 5 xs s s.heap) (hbl : b < s.heap.size) (hbA : ¬ zLA s b) (fin : ∀ (H : Heap) (locs : List Loc) (ls : Array Slot), va_S (zLA s) s.heap H locs → lv_has ls 4 [(0, .ref b), (3, .int 0)] → W p l e room_1 s m #[Value.ref b] below meth c H locs 200 20000 (lw_Z below #[Value.ref b] s) (F0 m 1360 ls [])) {fX f : zM} {o fa fi nu fm co en ke ev al ra kn vq : Nat} {ge : Nat → Option Nat} {ea ma : Nat → Nat} {mo wev wnb wki wmy wce wiw wli wha wwt wfy wfk wem wna wpl whs wk1 wk2 wk3 : Nat} (hXX : zXF cy fX o fa fi nu fm co en ke ev al ra kn vq ge ea ma) (hn_mo : fX mo = none) (hn_wev : fX wev = none) (hn_wnb : fX wnb = none) (hn_wki : fX wki = none) (hn_wmy : fX wmy = none) (hn_wce : fX wce = none) (hn_wiw : fX wiw = none) (hn_wli : fX wli = none) (hn_wha : fX wha = none) (hn_wwt : fX wwt = none) (hn_wfy : fX wfy = none) (hn_wfk : fX wfk = none) (hn_wem : fX wem = none) (hn_wna : fX wna = none) (hn_wpl : fX wpl = none) (hn_whs : fX whs = none) (hn_wk1 : fX wk1 = none) (hn_wk2 : fX wk2 = none) (hn_wk3 : fX wk3 = none) (hXF : zXF cy f o fa fi nu fm co en ke ev al ra kn vq ge ea ma) (hMF : zMF cy f mo wev wnb wki wmy wce wiw wli wha wwt wfy wfk wem wna wpl whs wk1 wk2 wk3) {H : Heap} {locs : List Loc} {ls : Array Slot} (hz : zH D (zLA s) f H) (hS : va_S (zLA s) s.heap H locs) (hl : lv_has ls 4 [(0, .ref b), (1, .ref o), (2, .ref mo), (3, .int 0)]) : W p l e room_1 s m #[Value.ref b] below meth c H locs 100 5000 (lw_Z below #[Value.ref b] s) (F0 m 1080 ls []) := by
  have hx := C.1
  have hb := C.2.1
  have hA : ∀ q, s.heap.size ≤ q → zLA s q := fun q h => h
  obtain ⟨px_o, px_fa, px_ev, px_fi, px_al, px_ra, px_nu, px_fm, px_co, px_en, px_ke, har, hG, hE, hM⟩ := hXF
  obtain ⟨pm_mo, pm_wev, pm_wnb, pm_wki, pm_wmy, pm_wce, pm_wiw, pm_wli, pm_wha, pm_wwt, pm_wfy, pm_wfk, pm_wem, pm_wna, pm_wpl, pm_whs, pm_wk1, pm_wk2, pm_wk3, nkm, nlh, nkl, nkh, nml, nmh, nc1, nc2, nc3, nw1, nw2, nw3, nw4⟩ := hMF
  obtain ⟨hx_o, hx_fa, hx_ev, hx_fi, hx_al, hx_ra, hx_nu, hx_fm, hx_co, hx_en, hx_ke, _, _, hxE, hxM⟩ := hXX
  refine lv_aload_n hx hb dL_law_1080 rfl (lv_at hl 1 rfl) ?_
  refine lv_aload_n hx hb dL_law_1081 rfl (lv_at hl 0 rfl) ?_
  refine lv_iload_n hx hb dL_law_1082 rfl (lv_at hl 3 rfl) ?_
  refine lv_iconst (v := 1) hx hb dL_law_1083 (by decide) ?_
  refine lv_iadd hx hb dL_law_1084 ?_
  refine lv_topi (fun y1 e2 => ?_)
  obtain rfl : y1 = 1 := e2.trans (by decide)
  refine z_sld 1 hx hb hXs hbl hbA hS (by decide) (Nat.le_of_ble_eq_true rfl) (Nat.le_of_ble_eq_true rfl) dL_law_1085 ?_
  refine lv_aload_n hx hb dL_law_1086 rfl (lv_at hl 0 rfl) ?_
  refine lv_iload_n hx hb dL_law_1087 rfl (lv_at hl 3 rfl) ?_
  refine lv_iconst (v := 2) hx hb dL_law_1088 (by decide) ?_
  refine lv_iadd hx hb dL_law_1089 ?_
  refine lv_topi (fun y3 e4 => ?_)
  obtain rfl : y3 = 2 := e4.trans (by decide)
  refine z_sld 2 hx hb hXs hbl hbA hS (by decide) (Nat.le_of_ble_eq_true rfl) (Nat.le_of_ble_eq_true rfl) dL_law_1090 ?_
  refine z_callVi (As := [.int (xs 1), .int (xs 2)]) C hz hS hA hl (k_X7_constant l D cy f o fa fi nu fm co en ke (xs 1) (xs 2) (fun _ => none) ge ea ma (fun _ => fun _ => 0) px_o px_en px_co hG hE hM) zyX7_constant mML_120 px_o zl7 rfl rfl (Nat.le_of_ble_eq_true rfl) ⟨Nat.le_of_ble_eq_true rfl, Nat.le_of_ble_eq_true rfl⟩ ⟨Nat.le_of_ble_eq_true rfl, Nat.le_of_ble_eq_true rfl⟩ dL_law_1091 (fun r f5 H locs h6 hz hS => ?_)
  obtain ⟨rfl, k7⟩ := h6
  refine lv_aload_n hx hb dL_law_1094 rfl (lv_at hl 2 rfl) ?_
  refine lv_aload_n hx hb dL_law_1095 rfl (lv_at hl 0 rfl) ?_
  refine lv_iload_n hx hb dL_law_1096 rfl (lv_at hl 3 rfl) ?_
  refine lv_iconst (v := 1) hx hb dL_law_1097 (by decide) ?_
  refine lv_iadd hx hb dL_law_1098 ?_
  refine lv_topi (fun y8 e9 => ?_)
  obtain rfl : y8 = 1 := e9.trans (by decide)
  refine z_sld 1 hx hb hXs hbl hbA hS (by decide) (Nat.le_of_ble_eq_true rfl) (Nat.le_of_ble_eq_true rfl) dL_law_1099 ?_
  refine lv_aload_n hx hb dL_law_1100 rfl (lv_at hl 0 rfl) ?_
  refine lv_iload_n hx hb dL_law_1101 rfl (lv_at hl 3 rfl) ?_
  refine lv_iconst (v := 2) hx hb dL_law_1102 (by decide) ?_
  refine lv_iadd hx hb dL_law_1103 ?_
  refine lv_topi (fun y10 e11 => ?_)
  obtain rfl : y10 = 2 := e11.trans (by decide)
  refine z_sld 2 hx hb hXs hbl hbA hS (by decide) (Nat.le_of_ble_eq_true rfl) (Nat.le_of_ble_eq_true rfl) dL_law_1104 ?_
  have a12 : f5 mo = some (.inr (8, [.int 0, .int (-1), .int 0, .ref wev, .int 0, .ref wnb, .int 0, .ref wki, .ref wmy, .ref wce, .ref wiw, .ref wli, .ref wha, .ref wwt, .int 0, .ref wfy, .ref wfk, .int 0, .ref wem, .ref wna, .ref wpl, .ref whs, .long 1, .int 0, .ref wk1, .ref wk2, .ref wk3])) := k7 _ _ pm_mo (Ne.symm (z_nn hn_mo hx_o)) (Ne.symm (z_nn hn_mo hx_co)) (fun j9 h9 => Ne.symm (z_nn hn_mo (hxE j9 h9))) (fun j9 h9 => Ne.symm (z_nn hn_mo (hxM j9 h9)))
  have a13 : f5 wem = some (.inl (cy 0, 60, .inl (fun _ => 0))) := k7 _ _ pm_wem (Ne.symm (z_nn hn_wem hx_o)) (Ne.symm (z_nn hn_wem hx_co)) (fun j9 h9 => Ne.symm (z_nn hn_wem (hxE j9 h9))) (fun j9 h9 => Ne.symm (z_nn hn_wem (hxM j9 h9)))
  have a14 : f5 wna = some (.inl (cy 0, 60, .inl (fun _ => 0))) := k7 _ _ pm_wna (Ne.symm (z_nn hn_wna hx_o)) (Ne.symm (z_nn hn_wna hx_co)) (fun j9 h9 => Ne.symm (z_nn hn_wna (hxE j9 h9))) (fun j9 h9 => Ne.symm (z_nn hn_wna (hxM j9 h9)))
  have a15 : f5 wpl = some (.inl (cy 0, 60, .inl (fun _ => 0))) := k7 _ _ pm_wpl (Ne.symm (z_nn hn_wpl hx_o)) (Ne.symm (z_nn hn_wpl hx_co)) (fun j9 h9 => Ne.symm (z_nn hn_wpl (hxE j9 h9))) (fun j9 h9 => Ne.symm (z_nn hn_wpl (hxM j9 h9)))
  have a16 : f5 whs = some (.inl (cy 0, 4, .inl (fun _ => 0))) := k7 _ _ pm_whs (Ne.symm (z_nn hn_whs hx_o)) (Ne.symm (z_nn hn_whs hx_co)) (fun j9 h9 => Ne.symm (z_nn hn_whs (hxE j9 h9))) (fun j9 h9 => Ne.symm (z_nn hn_whs (hxM j9 h9)))
  refine z_callVi (As := [.int (xs 1), .int (xs 2)]) C hz hS hA hl (k_X8_constant l D cy f5 mo wev wnb wki wmy wce wiw wli wha wwt wfy wfk wem wna wpl whs wk1 wk2 wk3 (xs 1) (xs 2) (fun _ => 0) (fun _ => 0) (fun _ => 0) a12 a13 a14 a15 a16 nc1 nc2 nc3) zyX8_constant mML_123 a12 zl8 rfl rfl (Nat.le_of_ble_eq_true rfl) ⟨Nat.le_of_ble_eq_true rfl, Nat.le_of_ble_eq_true rfl⟩ ⟨Nat.le_of_ble_eq_true rfl, Nat.le_of_ble_eq_true rfl⟩ dL_law_1105 (fun r f17 H locs h18 hz hS => ?_)
  subst h18
  refine lv_icmp_eq (tgt := 1360) hx hb dL_law_1108 (by decide) (fun _ => ?_) (fun c19 => absurd rfl c19)
  refine W.widen (k := 200) (n := 20000) (Nat.le_of_ble_eq_true rfl) (Nat.le_of_ble_eq_true rfl) ?_
  exact fin _ _ _ hS (lv_sub hl [0, 3] rfl)
set_option maxHeartbeats 4000000 in
set_option maxRecDepth 100000 in
theorem law_case_25 {p : Program} {l : Launch} {e : Env} {s : State} {m : MethodId} {below : List Frame} {meth : Method} {c : Code} {D : va_G} {cy : Nat → ClassId} {b : Nat} {xs : Nat → Int32} (C : zC D cy p s m #[Value.ref b] meth c RL cL_law 4) (hXs : va_X b 5 xs s s.heap) (hbl : b < s.heap.size) (hbA : ¬ zLA s b) (fin : ∀ (H : Heap) (locs : List Loc) (ls : Array Slot), va_S (zLA s) s.heap H locs → lv_has ls 4 [(0, .ref b), (3, .int 0)] → W p l e room_1 s m #[Value.ref b] below meth c H locs 200 20000 (lw_Z below #[Value.ref b] s) (F0 m 1360 ls [])) {fX f : zM} {o fa fi nu fm co en ke ev al ra kn vq : Nat} {ge : Nat → Option Nat} {ea ma : Nat → Nat} {mo wev wnb wki wmy wce wiw wli wha wwt wfy wfk wem wna wpl whs wk1 wk2 wk3 : Nat} (hXX : zXF cy fX o fa fi nu fm co en ke ev al ra kn vq ge ea ma) (hn_mo : fX mo = none) (hn_wev : fX wev = none) (hn_wnb : fX wnb = none) (hn_wki : fX wki = none) (hn_wmy : fX wmy = none) (hn_wce : fX wce = none) (hn_wiw : fX wiw = none) (hn_wli : fX wli = none) (hn_wha : fX wha = none) (hn_wwt : fX wwt = none) (hn_wfy : fX wfy = none) (hn_wfk : fX wfk = none) (hn_wem : fX wem = none) (hn_wna : fX wna = none) (hn_wpl : fX wpl = none) (hn_whs : fX whs = none) (hn_wk1 : fX wk1 = none) (hn_wk2 : fX wk2 = none) (hn_wk3 : fX wk3 = none) (hXF : zXF cy f o fa fi nu fm co en ke ev al ra kn vq ge ea ma) (hMF : zMF cy f mo wev wnb wki wmy wce wiw wli wha wwt wfy wfk wem wna wpl whs wk1 wk2 wk3) {H : Heap} {locs : List Loc} {ls : Array Slot} (hz : zH D (zLA s) f H) (hS : va_S (zLA s) s.heap H locs) (hl : lv_has ls 4 [(0, .ref b), (1, .ref o), (2, .ref mo), (3, .int 0)]) : W p l e room_1 s m #[Value.ref b] below meth c H locs 100 5000 (lw_Z below #[Value.ref b] s) (F0 m 1113 ls []) := by
  have hx := C.1
  have hb := C.2.1
  have hA : ∀ q, s.heap.size ≤ q → zLA s q := fun q h => h
  obtain ⟨px_o, px_fa, px_ev, px_fi, px_al, px_ra, px_nu, px_fm, px_co, px_en, px_ke, har, hG, hE, hM⟩ := hXF
  obtain ⟨pm_mo, pm_wev, pm_wnb, pm_wki, pm_wmy, pm_wce, pm_wiw, pm_wli, pm_wha, pm_wwt, pm_wfy, pm_wfk, pm_wem, pm_wna, pm_wpl, pm_whs, pm_wk1, pm_wk2, pm_wk3, nkm, nlh, nkl, nkh, nml, nmh, nc1, nc2, nc3, nw1, nw2, nw3, nw4⟩ := hMF
  obtain ⟨hx_o, hx_fa, hx_ev, hx_fi, hx_al, hx_ra, hx_nu, hx_fm, hx_co, hx_en, hx_ke, _, _, hxE, hxM⟩ := hXX
  refine lv_aload_n hx hb dL_law_1113 rfl (lv_at hl 1 rfl) ?_
  refine lv_aload_n hx hb dL_law_1114 rfl (lv_at hl 0 rfl) ?_
  refine lv_iload_n hx hb dL_law_1115 rfl (lv_at hl 3 rfl) ?_
  refine lv_iconst (v := 1) hx hb dL_law_1116 (by decide) ?_
  refine lv_iadd hx hb dL_law_1117 ?_
  refine lv_topi (fun y1 e2 => ?_)
  obtain rfl : y1 = 1 := e2.trans (by decide)
  refine z_sld 1 hx hb hXs hbl hbA hS (by decide) (Nat.le_of_ble_eq_true rfl) (Nat.le_of_ble_eq_true rfl) dL_law_1118 ?_
  refine lv_aload_n hx hb dL_law_1119 rfl (lv_at hl 0 rfl) ?_
  refine lv_iload_n hx hb dL_law_1120 rfl (lv_at hl 3 rfl) ?_
  refine lv_iconst (v := 2) hx hb dL_law_1121 (by decide) ?_
  refine lv_iadd hx hb dL_law_1122 ?_
  refine lv_topi (fun y3 e4 => ?_)
  obtain rfl : y3 = 2 := e4.trans (by decide)
  refine z_sld 2 hx hb hXs hbl hbA hS (by decide) (Nat.le_of_ble_eq_true rfl) (Nat.le_of_ble_eq_true rfl) dL_law_1123 ?_
  refine z_callVi (As := [.int (xs 1), .int (xs 2)]) C hz hS hA hl (k_X7_named l D cy f o fa fi nu fm co en ke (xs 1) (xs 2) 0 (-1) 0 ev (fun _ => 0) ge ea ma (fun _ => fun _ => 0) px_o px_fa px_ev px_en hG hE hM) zyX7_named mML_124 px_o zl7 rfl rfl (Nat.le_of_ble_eq_true rfl) ⟨Nat.le_of_ble_eq_true rfl, Nat.le_of_ble_eq_true rfl⟩ ⟨Nat.le_of_ble_eq_true rfl, Nat.le_of_ble_eq_true rfl⟩ dL_law_1124 (fun r f5 H locs h6 hz hS => ?_)
  obtain ⟨rfl, k7⟩ := h6
  refine lv_aload_n hx hb dL_law_1127 rfl (lv_at hl 2 rfl) ?_
  refine lv_aload_n hx hb dL_law_1128 rfl (lv_at hl 0 rfl) ?_
  refine lv_iload_n hx hb dL_law_1129 rfl (lv_at hl 3 rfl) ?_
  refine lv_iconst (v := 1) hx hb dL_law_1130 (by decide) ?_
  refine lv_iadd hx hb dL_law_1131 ?_
  refine lv_topi (fun y8 e9 => ?_)
  obtain rfl : y8 = 1 := e9.trans (by decide)
  refine z_sld 1 hx hb hXs hbl hbA hS (by decide) (Nat.le_of_ble_eq_true rfl) (Nat.le_of_ble_eq_true rfl) dL_law_1132 ?_
  refine lv_aload_n hx hb dL_law_1133 rfl (lv_at hl 0 rfl) ?_
  refine lv_iload_n hx hb dL_law_1134 rfl (lv_at hl 3 rfl) ?_
  refine lv_iconst (v := 2) hx hb dL_law_1135 (by decide) ?_
  refine lv_iadd hx hb dL_law_1136 ?_
  refine lv_topi (fun y10 e11 => ?_)
  obtain rfl : y10 = 2 := e11.trans (by decide)
  refine z_sld 2 hx hb hXs hbl hbA hS (by decide) (Nat.le_of_ble_eq_true rfl) (Nat.le_of_ble_eq_true rfl) dL_law_1137 ?_
  have a12 : f5 mo = some (.inr (8, [.int 0, .int (-1), .int 0, .ref wev, .int 0, .ref wnb, .int 0, .ref wki, .ref wmy, .ref wce, .ref wiw, .ref wli, .ref wha, .ref wwt, .int 0, .ref wfy, .ref wfk, .int 0, .ref wem, .ref wna, .ref wpl, .ref whs, .long 1, .int 0, .ref wk1, .ref wk2, .ref wk3])) := k7 _ _ pm_mo (Ne.symm (z_nn hn_mo hx_fa)) (Ne.symm (z_nn hn_mo hx_ev))
  have a13 : f5 wev = some (.inl (cy 0, 8, .inl (fun _ => 0))) := k7 _ _ pm_wev (Ne.symm (z_nn hn_wev hx_fa)) (Ne.symm (z_nn hn_wev hx_ev))
  refine z_callVi (As := [.int (xs 1), .int (xs 2)]) C hz hS hA hl (k_X8_named l D cy f5 mo wev wnb wki wmy wce wiw wli wha wwt wfy wfk wem wna wpl whs wk1 wk2 wk3 (xs 1) (xs 2) (fun _ => 0) a12 a13 ) zyX8_named mML_127 a12 zl8 rfl rfl (Nat.le_of_ble_eq_true rfl) ⟨Nat.le_of_ble_eq_true rfl, Nat.le_of_ble_eq_true rfl⟩ ⟨Nat.le_of_ble_eq_true rfl, Nat.le_of_ble_eq_true rfl⟩ dL_law_1138 (fun r f14 H locs h15 hz hS => ?_)
  subst h15
  refine lv_icmp_eq (tgt := 1360) hx hb dL_law_1141 (by decide) (fun _ => ?_) (fun c16 => absurd rfl c16)
  refine W.widen (k := 200) (n := 20000) (Nat.le_of_ble_eq_true rfl) (Nat.le_of_ble_eq_true rfl) ?_
  exact fin _ _ _ hS (lv_sub hl [0, 3] rfl)
set_option maxHeartbeats 4000000 in
set_option maxRecDepth 100000 in
theorem law_case_26 {p : Program} {l : Launch} {e : Env} {s : State} {m : MethodId} {below : List Frame} {meth : Method} {c : Code} {D : va_G} {cy : Nat → ClassId} {b : Nat} {xs : Nat → Int32} (C : zC D cy p s m #[Value.ref b] meth c RL cL_law 4) (hXs : va_X b 5 xs s s.heap) (hbl : b < s.heap.size) (hbA : ¬ zLA s b) (fin : ∀ (H : Heap) (locs : List Loc) (ls : Array Slot), va_S (zLA s) s.heap H locs → lv_has ls 4 [(0, .ref b), (3, .int 0)] → W p l e room_1 s m #[Value.ref b] below meth c H locs 200 20000 (lw_Z below #[Value.ref b] s) (F0 m 1360 ls [])) {fX f : zM} {o fa fi nu fm co en ke ev al ra kn vq : Nat} {ge : Nat → Option Nat} {ea ma : Nat → Nat} {mo wev wnb wki wmy wce wiw wli wha wwt wfy wfk wem wna wpl whs wk1 wk2 wk3 : Nat} (hXX : zXF cy fX o fa fi nu fm co en ke ev al ra kn vq ge ea ma) (hn_mo : fX mo = none) (hn_wev : fX wev = none) (hn_wnb : fX wnb = none) (hn_wki : fX wki = none) (hn_wmy : fX wmy = none) (hn_wce : fX wce = none) (hn_wiw : fX wiw = none) (hn_wli : fX wli = none) (hn_wha : fX wha = none) (hn_wwt : fX wwt = none) (hn_wfy : fX wfy = none) (hn_wfk : fX wfk = none) (hn_wem : fX wem = none) (hn_wna : fX wna = none) (hn_wpl : fX wpl = none) (hn_whs : fX whs = none) (hn_wk1 : fX wk1 = none) (hn_wk2 : fX wk2 = none) (hn_wk3 : fX wk3 = none) (hXF : zXF cy f o fa fi nu fm co en ke ev al ra kn vq ge ea ma) (hMF : zMF cy f mo wev wnb wki wmy wce wiw wli wha wwt wfy wfk wem wna wpl whs wk1 wk2 wk3) {H : Heap} {locs : List Loc} {ls : Array Slot} (hz : zH D (zLA s) f H) (hS : va_S (zLA s) s.heap H locs) (hl : lv_has ls 4 [(0, .ref b), (1, .ref o), (2, .ref mo), (3, .int 0)]) : W p l e room_1 s m #[Value.ref b] below meth c H locs 100 5000 (lw_Z below #[Value.ref b] s) (F0 m 1146 ls []) := by
  have hx := C.1
  have hb := C.2.1
  have hA : ∀ q, s.heap.size ≤ q → zLA s q := fun q h => h
  obtain ⟨px_o, px_fa, px_ev, px_fi, px_al, px_ra, px_nu, px_fm, px_co, px_en, px_ke, har, hG, hE, hM⟩ := hXF
  obtain ⟨pm_mo, pm_wev, pm_wnb, pm_wki, pm_wmy, pm_wce, pm_wiw, pm_wli, pm_wha, pm_wwt, pm_wfy, pm_wfk, pm_wem, pm_wna, pm_wpl, pm_whs, pm_wk1, pm_wk2, pm_wk3, nkm, nlh, nkl, nkh, nml, nmh, nc1, nc2, nc3, nw1, nw2, nw3, nw4⟩ := hMF
  obtain ⟨hx_o, hx_fa, hx_ev, hx_fi, hx_al, hx_ra, hx_nu, hx_fm, hx_co, hx_en, hx_ke, _, _, hxE, hxM⟩ := hXX
  refine lv_aload_n hx hb dL_law_1146 rfl (lv_at hl 1 rfl) ?_
  refine lv_aload_n hx hb dL_law_1147 rfl (lv_at hl 0 rfl) ?_
  refine lv_iload_n hx hb dL_law_1148 rfl (lv_at hl 3 rfl) ?_
  refine lv_iconst (v := 1) hx hb dL_law_1149 (by decide) ?_
  refine lv_iadd hx hb dL_law_1150 ?_
  refine lv_topi (fun y1 e2 => ?_)
  obtain rfl : y1 = 1 := e2.trans (by decide)
  refine z_sld 1 hx hb hXs hbl hbA hS (by decide) (Nat.le_of_ble_eq_true rfl) (Nat.le_of_ble_eq_true rfl) dL_law_1151 ?_
  refine z_callVi (As := [.int (xs 1)]) C hz hS hA hl (k_X7_drop l D cy f o fa fi nu fm co en ke (xs 1) px_o ) zyX7_drop mML_128 px_o zl7 rfl rfl (Nat.le_of_ble_eq_true rfl) ⟨Nat.le_of_ble_eq_true rfl, Nat.le_of_ble_eq_true rfl⟩ ⟨Nat.le_of_ble_eq_true rfl, Nat.le_of_ble_eq_true rfl⟩ dL_law_1152 (fun r f3 H locs h4 hz hS => ?_)
  obtain ⟨rfl, k5⟩ := h4
  refine lv_aload_n hx hb dL_law_1155 rfl (lv_at hl 2 rfl) ?_
  refine lv_aload_n hx hb dL_law_1156 rfl (lv_at hl 0 rfl) ?_
  refine lv_iload_n hx hb dL_law_1157 rfl (lv_at hl 3 rfl) ?_
  refine lv_iconst (v := 1) hx hb dL_law_1158 (by decide) ?_
  refine lv_iadd hx hb dL_law_1159 ?_
  refine lv_topi (fun y6 e7 => ?_)
  obtain rfl : y6 = 1 := e7.trans (by decide)
  refine z_sld 1 hx hb hXs hbl hbA hS (by decide) (Nat.le_of_ble_eq_true rfl) (Nat.le_of_ble_eq_true rfl) dL_law_1160 ?_
  have a8 : f3 mo = some (.inr (8, [.int 0, .int (-1), .int 0, .ref wev, .int 0, .ref wnb, .int 0, .ref wki, .ref wmy, .ref wce, .ref wiw, .ref wli, .ref wha, .ref wwt, .int 0, .ref wfy, .ref wfk, .int 0, .ref wem, .ref wna, .ref wpl, .ref whs, .long 1, .int 0, .ref wk1, .ref wk2, .ref wk3])) := k5 _ _ pm_mo 
  refine z_callVi (As := [.int (xs 1)]) C hz hS hA hl (k_X8_drop l D cy f3 mo wev wnb wki wmy wce wiw wli wha wwt wfy wfk wem wna wpl whs wk1 wk2 wk3 (xs 1) a8 ) zyX8_drop mML_131 a8 zl8 rfl rfl (Nat.le_of_ble_eq_true rfl) ⟨Nat.le_of_ble_eq_true rfl, Nat.le_of_ble_eq_true rfl⟩ ⟨Nat.le_of_ble_eq_true rfl, Nat.le_of_ble_eq_true rfl⟩ dL_law_1161 (fun r f9 H locs h10 hz hS => ?_)
  subst h10
  refine lv_icmp_eq (tgt := 1360) hx hb dL_law_1164 (by decide) (fun _ => ?_) (fun c11 => absurd rfl c11)
  refine W.widen (k := 200) (n := 20000) (Nat.le_of_ble_eq_true rfl) (Nat.le_of_ble_eq_true rfl) ?_
  exact fin _ _ _ hS (lv_sub hl [0, 3] rfl)
set_option maxHeartbeats 4000000 in
set_option maxRecDepth 100000 in
theorem law_case_27 {p : Program} {l : Launch} {e : Env} {s : State} {m : MethodId} {below : List Frame} {meth : Method} {c : Code} {D : va_G} {cy : Nat → ClassId} {b : Nat} {xs : Nat → Int32} (C : zC D cy p s m #[Value.ref b] meth c RL cL_law 4) (hXs : va_X b 5 xs s s.heap) (hbl : b < s.heap.size) (hbA : ¬ zLA s b) (fin : ∀ (H : Heap) (locs : List Loc) (ls : Array Slot), va_S (zLA s) s.heap H locs → lv_has ls 4 [(0, .ref b), (3, .int 0)] → W p l e room_1 s m #[Value.ref b] below meth c H locs 200 20000 (lw_Z below #[Value.ref b] s) (F0 m 1360 ls [])) {fX f : zM} {o fa fi nu fm co en ke ev al ra kn vq : Nat} {ge : Nat → Option Nat} {ea ma : Nat → Nat} {mo wev wnb wki wmy wce wiw wli wha wwt wfy wfk wem wna wpl whs wk1 wk2 wk3 : Nat} (hXX : zXF cy fX o fa fi nu fm co en ke ev al ra kn vq ge ea ma) (hn_mo : fX mo = none) (hn_wev : fX wev = none) (hn_wnb : fX wnb = none) (hn_wki : fX wki = none) (hn_wmy : fX wmy = none) (hn_wce : fX wce = none) (hn_wiw : fX wiw = none) (hn_wli : fX wli = none) (hn_wha : fX wha = none) (hn_wwt : fX wwt = none) (hn_wfy : fX wfy = none) (hn_wfk : fX wfk = none) (hn_wem : fX wem = none) (hn_wna : fX wna = none) (hn_wpl : fX wpl = none) (hn_whs : fX whs = none) (hn_wk1 : fX wk1 = none) (hn_wk2 : fX wk2 = none) (hn_wk3 : fX wk3 = none) (hXF : zXF cy f o fa fi nu fm co en ke ev al ra kn vq ge ea ma) (hMF : zMF cy f mo wev wnb wki wmy wce wiw wli wha wwt wfy wfk wem wna wpl whs wk1 wk2 wk3) {H : Heap} {locs : List Loc} {ls : Array Slot} (hz : zH D (zLA s) f H) (hS : va_S (zLA s) s.heap H locs) (hl : lv_has ls 4 [(0, .ref b), (1, .ref o), (2, .ref mo), (3, .int 0)]) : W p l e room_1 s m #[Value.ref b] below meth c H locs 100 5000 (lw_Z below #[Value.ref b] s) (F0 m 1169 ls []) := by
  have hx := C.1
  have hb := C.2.1
  have hA : ∀ q, s.heap.size ≤ q → zLA s q := fun q h => h
  obtain ⟨px_o, px_fa, px_ev, px_fi, px_al, px_ra, px_nu, px_fm, px_co, px_en, px_ke, har, hG, hE, hM⟩ := hXF
  obtain ⟨pm_mo, pm_wev, pm_wnb, pm_wki, pm_wmy, pm_wce, pm_wiw, pm_wli, pm_wha, pm_wwt, pm_wfy, pm_wfk, pm_wem, pm_wna, pm_wpl, pm_whs, pm_wk1, pm_wk2, pm_wk3, nkm, nlh, nkl, nkh, nml, nmh, nc1, nc2, nc3, nw1, nw2, nw3, nw4⟩ := hMF
  obtain ⟨hx_o, hx_fa, hx_ev, hx_fi, hx_al, hx_ra, hx_nu, hx_fm, hx_co, hx_en, hx_ke, _, _, hxE, hxM⟩ := hXX
  refine lv_aload_n hx hb dL_law_1169 rfl (lv_at hl 1 rfl) ?_
  refine lv_aload_n hx hb dL_law_1170 rfl (lv_at hl 0 rfl) ?_
  refine lv_iload_n hx hb dL_law_1171 rfl (lv_at hl 3 rfl) ?_
  refine lv_iconst (v := 1) hx hb dL_law_1172 (by decide) ?_
  refine lv_iadd hx hb dL_law_1173 ?_
  refine lv_topi (fun y1 e2 => ?_)
  obtain rfl : y1 = 1 := e2.trans (by decide)
  refine z_sld 1 hx hb hXs hbl hbA hS (by decide) (Nat.le_of_ble_eq_true rfl) (Nat.le_of_ble_eq_true rfl) dL_law_1174 ?_
  refine z_callVi (As := [.int (xs 1)]) C hz hS hA hl (k_X7_reorder l D cy f o fa fi nu fm co en ke (xs 1) ge ea ma (fun _ => fun _ => 0) px_o px_en hG hE hM) zyX7_reorder mML_132 px_o zl7 rfl rfl (Nat.le_of_ble_eq_true rfl) ⟨Nat.le_of_ble_eq_true rfl, Nat.le_of_ble_eq_true rfl⟩ ⟨Nat.le_of_ble_eq_true rfl, Nat.le_of_ble_eq_true rfl⟩ dL_law_1175 (fun r f3 H locs h4 hz hS => ?_)
  obtain ⟨rfl, k5⟩ := h4
  refine lv_aload_n hx hb dL_law_1178 rfl (lv_at hl 2 rfl) ?_
  refine lv_aload_n hx hb dL_law_1179 rfl (lv_at hl 0 rfl) ?_
  refine lv_iload_n hx hb dL_law_1180 rfl (lv_at hl 3 rfl) ?_
  refine lv_iconst (v := 1) hx hb dL_law_1181 (by decide) ?_
  refine lv_iadd hx hb dL_law_1182 ?_
  refine lv_topi (fun y6 e7 => ?_)
  obtain rfl : y6 = 1 := e7.trans (by decide)
  refine z_sld 1 hx hb hXs hbl hbA hS (by decide) (Nat.le_of_ble_eq_true rfl) (Nat.le_of_ble_eq_true rfl) dL_law_1183 ?_
  have a8 : f3 mo = some (.inr (8, [.int 0, .int (-1), .int 0, .ref wev, .int 0, .ref wnb, .int 0, .ref wki, .ref wmy, .ref wce, .ref wiw, .ref wli, .ref wha, .ref wwt, .int 0, .ref wfy, .ref wfk, .int 0, .ref wem, .ref wna, .ref wpl, .ref whs, .long 1, .int 0, .ref wk1, .ref wk2, .ref wk3])) := k5 _ _ pm_mo 
  have a9 : f3 whs = some (.inl (cy 0, 4, .inl (fun _ => 0))) := k5 _ _ pm_whs 
  refine z_callVi (As := [.int (xs 1)]) C hz hS hA hl (k_X8_reorder l D cy f3 mo wev wnb wki wmy wce wiw wli wha wwt wfy wfk wem wna wpl whs wk1 wk2 wk3 (xs 1) a8 a9 ) zyX8_reorder mML_135 a8 zl8 rfl rfl (Nat.le_of_ble_eq_true rfl) ⟨Nat.le_of_ble_eq_true rfl, Nat.le_of_ble_eq_true rfl⟩ ⟨Nat.le_of_ble_eq_true rfl, Nat.le_of_ble_eq_true rfl⟩ dL_law_1184 (fun r f10 H locs h11 hz hS => ?_)
  subst h11
  refine lv_icmp_eq (tgt := 1360) hx hb dL_law_1187 (by decide) (fun _ => ?_) (fun c12 => absurd rfl c12)
  refine W.widen (k := 200) (n := 20000) (Nat.le_of_ble_eq_true rfl) (Nat.le_of_ble_eq_true rfl) ?_
  exact fin _ _ _ hS (lv_sub hl [0, 3] rfl)
set_option maxHeartbeats 4000000 in
set_option maxRecDepth 100000 in
theorem law_case_28 {p : Program} {l : Launch} {e : Env} {s : State} {m : MethodId} {below : List Frame} {meth : Method} {c : Code} {D : va_G} {cy : Nat → ClassId} {b : Nat} {xs : Nat → Int32} (C : zC D cy p s m #[Value.ref b] meth c RL cL_law 4) (hXs : va_X b 5 xs s s.heap) (hbl : b < s.heap.size) (hbA : ¬ zLA s b) (fin : ∀ (H : Heap) (locs : List Loc) (ls : Array Slot), va_S (zLA s) s.heap H locs → lv_has ls 4 [(0, .ref b), (3, .int 0)] → W p l e room_1 s m #[Value.ref b] below meth c H locs 200 20000 (lw_Z below #[Value.ref b] s) (F0 m 1360 ls [])) {fX f : zM} {o fa fi nu fm co en ke ev al ra kn vq : Nat} {ge : Nat → Option Nat} {ea ma : Nat → Nat} {mo wev wnb wki wmy wce wiw wli wha wwt wfy wfk wem wna wpl whs wk1 wk2 wk3 : Nat} (hXX : zXF cy fX o fa fi nu fm co en ke ev al ra kn vq ge ea ma) (hn_mo : fX mo = none) (hn_wev : fX wev = none) (hn_wnb : fX wnb = none) (hn_wki : fX wki = none) (hn_wmy : fX wmy = none) (hn_wce : fX wce = none) (hn_wiw : fX wiw = none) (hn_wli : fX wli = none) (hn_wha : fX wha = none) (hn_wwt : fX wwt = none) (hn_wfy : fX wfy = none) (hn_wfk : fX wfk = none) (hn_wem : fX wem = none) (hn_wna : fX wna = none) (hn_wpl : fX wpl = none) (hn_whs : fX whs = none) (hn_wk1 : fX wk1 = none) (hn_wk2 : fX wk2 = none) (hn_wk3 : fX wk3 = none) (hXF : zXF cy f o fa fi nu fm co en ke ev al ra kn vq ge ea ma) (hMF : zMF cy f mo wev wnb wki wmy wce wiw wli wha wwt wfy wfk wem wna wpl whs wk1 wk2 wk3) {H : Heap} {locs : List Loc} {ls : Array Slot} (hz : zH D (zLA s) f H) (hS : va_S (zLA s) s.heap H locs) (hl : lv_has ls 4 [(0, .ref b), (1, .ref o), (2, .ref mo), (3, .int 0)]) : W p l e room_1 s m #[Value.ref b] below meth c H locs 100 5000 (lw_Z below #[Value.ref b] s) (F0 m 1192 ls []) := by
  have hx := C.1
  have hb := C.2.1
  have hA : ∀ q, s.heap.size ≤ q → zLA s q := fun q h => h
  obtain ⟨px_o, px_fa, px_ev, px_fi, px_al, px_ra, px_nu, px_fm, px_co, px_en, px_ke, har, hG, hE, hM⟩ := hXF
  obtain ⟨pm_mo, pm_wev, pm_wnb, pm_wki, pm_wmy, pm_wce, pm_wiw, pm_wli, pm_wha, pm_wwt, pm_wfy, pm_wfk, pm_wem, pm_wna, pm_wpl, pm_whs, pm_wk1, pm_wk2, pm_wk3, nkm, nlh, nkl, nkh, nml, nmh, nc1, nc2, nc3, nw1, nw2, nw3, nw4⟩ := hMF
  obtain ⟨hx_o, hx_fa, hx_ev, hx_fi, hx_al, hx_ra, hx_nu, hx_fm, hx_co, hx_en, hx_ke, _, _, hxE, hxM⟩ := hXX
  refine lv_aload_n hx hb dL_law_1192 rfl (lv_at hl 1 rfl) ?_
  refine lv_aload_n hx hb dL_law_1193 rfl (lv_at hl 0 rfl) ?_
  refine lv_iload_n hx hb dL_law_1194 rfl (lv_at hl 3 rfl) ?_
  refine lv_iconst (v := 1) hx hb dL_law_1195 (by decide) ?_
  refine lv_iadd hx hb dL_law_1196 ?_
  refine lv_topi (fun y1 e2 => ?_)
  obtain rfl : y1 = 1 := e2.trans (by decide)
  refine z_sld 1 hx hb hXs hbl hbA hS (by decide) (Nat.le_of_ble_eq_true rfl) (Nat.le_of_ble_eq_true rfl) dL_law_1197 ?_
  refine z_callVi (As := [.int (xs 1)]) C hz hS hA hl (k_X7_seed l D cy f o fa fi nu fm co en ke (xs 1) px_o ) zyX7_seed mML_136 px_o zl7 rfl rfl (Nat.le_of_ble_eq_true rfl) ⟨Nat.le_of_ble_eq_true rfl, Nat.le_of_ble_eq_true rfl⟩ ⟨Nat.le_of_ble_eq_true rfl, Nat.le_of_ble_eq_true rfl⟩ dL_law_1198 (fun r f3 H locs h4 hz hS => ?_)
  obtain ⟨rfl, k5⟩ := h4
  refine lv_aload_n hx hb dL_law_1201 rfl (lv_at hl 2 rfl) ?_
  refine lv_aload_n hx hb dL_law_1202 rfl (lv_at hl 0 rfl) ?_
  refine lv_iload_n hx hb dL_law_1203 rfl (lv_at hl 3 rfl) ?_
  refine lv_iconst (v := 1) hx hb dL_law_1204 (by decide) ?_
  refine lv_iadd hx hb dL_law_1205 ?_
  refine lv_topi (fun y6 e7 => ?_)
  obtain rfl : y6 = 1 := e7.trans (by decide)
  refine z_sld 1 hx hb hXs hbl hbA hS (by decide) (Nat.le_of_ble_eq_true rfl) (Nat.le_of_ble_eq_true rfl) dL_law_1206 ?_
  have a8 : f3 mo = some (.inr (8, [.int 0, .int (-1), .int 0, .ref wev, .int 0, .ref wnb, .int 0, .ref wki, .ref wmy, .ref wce, .ref wiw, .ref wli, .ref wha, .ref wwt, .int 0, .ref wfy, .ref wfk, .int 0, .ref wem, .ref wna, .ref wpl, .ref whs, .long 1, .int 0, .ref wk1, .ref wk2, .ref wk3])) := k5 _ _ pm_mo (Ne.symm (z_nn hn_mo hx_o))
  refine z_callVi (As := [.int (xs 1)]) C hz hS hA hl (k_X8_seed l D cy f3 mo wev wnb wki wmy wce wiw wli wha wwt wfy wfk wem wna wpl whs wk1 wk2 wk3 (xs 1) a8 ) zyX8_seed mML_139 a8 zl8 rfl rfl (Nat.le_of_ble_eq_true rfl) ⟨Nat.le_of_ble_eq_true rfl, Nat.le_of_ble_eq_true rfl⟩ ⟨Nat.le_of_ble_eq_true rfl, Nat.le_of_ble_eq_true rfl⟩ dL_law_1207 (fun r f9 H locs h10 hz hS => ?_)
  subst h10
  refine lv_icmp_eq (tgt := 1360) hx hb dL_law_1210 (by decide) (fun _ => ?_) (fun c11 => absurd rfl c11)
  refine W.widen (k := 200) (n := 20000) (Nat.le_of_ble_eq_true rfl) (Nat.le_of_ble_eq_true rfl) ?_
  exact fin _ _ _ hS (lv_sub hl [0, 3] rfl)
set_option maxHeartbeats 4000000 in
set_option maxRecDepth 100000 in
theorem law_case_29 {p : Program} {l : Launch} {e : Env} {s : State} {m : MethodId} {below : List Frame} {meth : Method} {c : Code} {D : va_G} {cy : Nat → ClassId} {b : Nat} {xs : Nat → Int32} (C : zC D cy p s m #[Value.ref b] meth c RL cL_law 4) (hXs : va_X b 5 xs s s.heap) (hbl : b < s.heap.size) (hbA : ¬ zLA s b) (fin : ∀ (H : Heap) (locs : List Loc) (ls : Array Slot), va_S (zLA s) s.heap H locs → lv_has ls 4 [(0, .ref b), (3, .int 0)] → W p l e room_1 s m #[Value.ref b] below meth c H locs 200 20000 (lw_Z below #[Value.ref b] s) (F0 m 1360 ls [])) {fX f : zM} {o fa fi nu fm co en ke ev al ra kn vq : Nat} {ge : Nat → Option Nat} {ea ma : Nat → Nat} {mo wev wnb wki wmy wce wiw wli wha wwt wfy wfk wem wna wpl whs wk1 wk2 wk3 : Nat} (hXX : zXF cy fX o fa fi nu fm co en ke ev al ra kn vq ge ea ma) (hn_mo : fX mo = none) (hn_wev : fX wev = none) (hn_wnb : fX wnb = none) (hn_wki : fX wki = none) (hn_wmy : fX wmy = none) (hn_wce : fX wce = none) (hn_wiw : fX wiw = none) (hn_wli : fX wli = none) (hn_wha : fX wha = none) (hn_wwt : fX wwt = none) (hn_wfy : fX wfy = none) (hn_wfk : fX wfk = none) (hn_wem : fX wem = none) (hn_wna : fX wna = none) (hn_wpl : fX wpl = none) (hn_whs : fX whs = none) (hn_wk1 : fX wk1 = none) (hn_wk2 : fX wk2 = none) (hn_wk3 : fX wk3 = none) (hXF : zXF cy f o fa fi nu fm co en ke ev al ra kn vq ge ea ma) (hMF : zMF cy f mo wev wnb wki wmy wce wiw wli wha wwt wfy wfk wem wna wpl whs wk1 wk2 wk3) {H : Heap} {locs : List Loc} {ls : Array Slot} (hz : zH D (zLA s) f H) (hS : va_S (zLA s) s.heap H locs) (hl : lv_has ls 4 [(0, .ref b), (1, .ref o), (2, .ref mo), (3, .int 0)]) : W p l e room_1 s m #[Value.ref b] below meth c H locs 100 5000 (lw_Z below #[Value.ref b] s) (F0 m 1215 ls []) := by
  have hx := C.1
  have hb := C.2.1
  have hA : ∀ q, s.heap.size ≤ q → zLA s q := fun q h => h
  obtain ⟨px_o, px_fa, px_ev, px_fi, px_al, px_ra, px_nu, px_fm, px_co, px_en, px_ke, har, hG, hE, hM⟩ := hXF
  obtain ⟨pm_mo, pm_wev, pm_wnb, pm_wki, pm_wmy, pm_wce, pm_wiw, pm_wli, pm_wha, pm_wwt, pm_wfy, pm_wfk, pm_wem, pm_wna, pm_wpl, pm_whs, pm_wk1, pm_wk2, pm_wk3, nkm, nlh, nkl, nkh, nml, nmh, nc1, nc2, nc3, nw1, nw2, nw3, nw4⟩ := hMF
  obtain ⟨hx_o, hx_fa, hx_ev, hx_fi, hx_al, hx_ra, hx_nu, hx_fm, hx_co, hx_en, hx_ke, _, _, hxE, hxM⟩ := hXX
  refine lv_aload_n hx hb dL_law_1215 rfl (lv_at hl 1 rfl) ?_
  refine lv_aload_n hx hb dL_law_1216 rfl (lv_at hl 0 rfl) ?_
  refine lv_iload_n hx hb dL_law_1217 rfl (lv_at hl 3 rfl) ?_
  refine lv_iconst (v := 1) hx hb dL_law_1218 (by decide) ?_
  refine lv_iadd hx hb dL_law_1219 ?_
  refine lv_topi (fun y1 e2 => ?_)
  obtain rfl : y1 = 1 := e2.trans (by decide)
  refine z_sld 1 hx hb hXs hbl hbA hS (by decide) (Nat.le_of_ble_eq_true rfl) (Nat.le_of_ble_eq_true rfl) dL_law_1220 ?_
  refine lv_aload_n hx hb dL_law_1221 rfl (lv_at hl 0 rfl) ?_
  refine lv_iload_n hx hb dL_law_1222 rfl (lv_at hl 3 rfl) ?_
  refine lv_iconst (v := 2) hx hb dL_law_1223 (by decide) ?_
  refine lv_iadd hx hb dL_law_1224 ?_
  refine lv_topi (fun y3 e4 => ?_)
  obtain rfl : y3 = 2 := e4.trans (by decide)
  refine z_sld 2 hx hb hXs hbl hbA hS (by decide) (Nat.le_of_ble_eq_true rfl) (Nat.le_of_ble_eq_true rfl) dL_law_1225 ?_
  refine z_callVi (As := [.int (xs 1), .int (xs 2)]) C hz hS hA hl (k_X7_told l D cy f o fa fi nu fm co en ke (xs 1) (xs 2) px_o ) zyX7_told mML_140 px_o zl7 rfl rfl (Nat.le_of_ble_eq_true rfl) ⟨Nat.le_of_ble_eq_true rfl, Nat.le_of_ble_eq_true rfl⟩ ⟨Nat.le_of_ble_eq_true rfl, Nat.le_of_ble_eq_true rfl⟩ dL_law_1226 (fun r f5 H locs h6 hz hS => ?_)
  obtain ⟨rfl, k7⟩ := h6
  refine lv_aload_n hx hb dL_law_1229 rfl (lv_at hl 2 rfl) ?_
  refine lv_aload_n hx hb dL_law_1230 rfl (lv_at hl 0 rfl) ?_
  refine lv_iload_n hx hb dL_law_1231 rfl (lv_at hl 3 rfl) ?_
  refine lv_iconst (v := 1) hx hb dL_law_1232 (by decide) ?_
  refine lv_iadd hx hb dL_law_1233 ?_
  refine lv_topi (fun y8 e9 => ?_)
  obtain rfl : y8 = 1 := e9.trans (by decide)
  refine z_sld 1 hx hb hXs hbl hbA hS (by decide) (Nat.le_of_ble_eq_true rfl) (Nat.le_of_ble_eq_true rfl) dL_law_1234 ?_
  refine lv_aload_n hx hb dL_law_1235 rfl (lv_at hl 0 rfl) ?_
  refine lv_iload_n hx hb dL_law_1236 rfl (lv_at hl 3 rfl) ?_
  refine lv_iconst (v := 2) hx hb dL_law_1237 (by decide) ?_
  refine lv_iadd hx hb dL_law_1238 ?_
  refine lv_topi (fun y10 e11 => ?_)
  obtain rfl : y10 = 2 := e11.trans (by decide)
  refine z_sld 2 hx hb hXs hbl hbA hS (by decide) (Nat.le_of_ble_eq_true rfl) (Nat.le_of_ble_eq_true rfl) dL_law_1239 ?_
  have a12 : f5 mo = some (.inr (8, [.int 0, .int (-1), .int 0, .ref wev, .int 0, .ref wnb, .int 0, .ref wki, .ref wmy, .ref wce, .ref wiw, .ref wli, .ref wha, .ref wwt, .int 0, .ref wfy, .ref wfk, .int 0, .ref wem, .ref wna, .ref wpl, .ref whs, .long 1, .int 0, .ref wk1, .ref wk2, .ref wk3])) := k7 _ _ pm_mo 
  refine z_callVi (As := [.int (xs 1), .int (xs 2)]) C hz hS hA hl (k_X8_told l D cy f5 mo wev wnb wki wmy wce wiw wli wha wwt wfy wfk wem wna wpl whs wk1 wk2 wk3 (xs 1) (xs 2) a12 ) zyX8_told mML_143 a12 zl8 rfl rfl (Nat.le_of_ble_eq_true rfl) ⟨Nat.le_of_ble_eq_true rfl, Nat.le_of_ble_eq_true rfl⟩ ⟨Nat.le_of_ble_eq_true rfl, Nat.le_of_ble_eq_true rfl⟩ dL_law_1240 (fun r f13 H locs h14 hz hS => ?_)
  subst h14
  refine lv_icmp_eq (tgt := 1360) hx hb dL_law_1243 (by decide) (fun _ => ?_) (fun c15 => absurd rfl c15)
  refine W.widen (k := 200) (n := 20000) (Nat.le_of_ble_eq_true rfl) (Nat.le_of_ble_eq_true rfl) ?_
  exact fin _ _ _ hS (lv_sub hl [0, 3] rfl)
set_option maxHeartbeats 4000000 in
set_option maxRecDepth 100000 in
theorem law_case_30 {p : Program} {l : Launch} {e : Env} {s : State} {m : MethodId} {below : List Frame} {meth : Method} {c : Code} {D : va_G} {cy : Nat → ClassId} {b : Nat} {xs : Nat → Int32} (C : zC D cy p s m #[Value.ref b] meth c RL cL_law 4) (hXs : va_X b 5 xs s s.heap) (hbl : b < s.heap.size) (hbA : ¬ zLA s b) (fin : ∀ (H : Heap) (locs : List Loc) (ls : Array Slot), va_S (zLA s) s.heap H locs → lv_has ls 4 [(0, .ref b), (3, .int 0)] → W p l e room_1 s m #[Value.ref b] below meth c H locs 200 20000 (lw_Z below #[Value.ref b] s) (F0 m 1360 ls [])) {fX f : zM} {o fa fi nu fm co en ke ev al ra kn vq : Nat} {ge : Nat → Option Nat} {ea ma : Nat → Nat} {mo wev wnb wki wmy wce wiw wli wha wwt wfy wfk wem wna wpl whs wk1 wk2 wk3 : Nat} (hXX : zXF cy fX o fa fi nu fm co en ke ev al ra kn vq ge ea ma) (hn_mo : fX mo = none) (hn_wev : fX wev = none) (hn_wnb : fX wnb = none) (hn_wki : fX wki = none) (hn_wmy : fX wmy = none) (hn_wce : fX wce = none) (hn_wiw : fX wiw = none) (hn_wli : fX wli = none) (hn_wha : fX wha = none) (hn_wwt : fX wwt = none) (hn_wfy : fX wfy = none) (hn_wfk : fX wfk = none) (hn_wem : fX wem = none) (hn_wna : fX wna = none) (hn_wpl : fX wpl = none) (hn_whs : fX whs = none) (hn_wk1 : fX wk1 = none) (hn_wk2 : fX wk2 = none) (hn_wk3 : fX wk3 = none) (hXF : zXF cy f o fa fi nu fm co en ke ev al ra kn vq ge ea ma) (hMF : zMF cy f mo wev wnb wki wmy wce wiw wli wha wwt wfy wfk wem wna wpl whs wk1 wk2 wk3) {H : Heap} {locs : List Loc} {ls : Array Slot} (hz : zH D (zLA s) f H) (hS : va_S (zLA s) s.heap H locs) (hl : lv_has ls 4 [(0, .ref b), (1, .ref o), (2, .ref mo), (3, .int 0)]) : W p l e room_1 s m #[Value.ref b] below meth c H locs 100 5000 (lw_Z below #[Value.ref b] s) (F0 m 1248 ls []) := by
  have hx := C.1
  have hb := C.2.1
  have hA : ∀ q, s.heap.size ≤ q → zLA s q := fun q h => h
  obtain ⟨px_o, px_fa, px_ev, px_fi, px_al, px_ra, px_nu, px_fm, px_co, px_en, px_ke, har, hG, hE, hM⟩ := hXF
  obtain ⟨pm_mo, pm_wev, pm_wnb, pm_wki, pm_wmy, pm_wce, pm_wiw, pm_wli, pm_wha, pm_wwt, pm_wfy, pm_wfk, pm_wem, pm_wna, pm_wpl, pm_whs, pm_wk1, pm_wk2, pm_wk3, nkm, nlh, nkl, nkh, nml, nmh, nc1, nc2, nc3, nw1, nw2, nw3, nw4⟩ := hMF
  obtain ⟨hx_o, hx_fa, hx_ev, hx_fi, hx_al, hx_ra, hx_nu, hx_fm, hx_co, hx_en, hx_ke, _, _, hxE, hxM⟩ := hXX
  refine lv_aload_n hx hb dL_law_1248 rfl (lv_at hl 1 rfl) ?_
  refine lv_aload_n hx hb dL_law_1249 rfl (lv_at hl 0 rfl) ?_
  refine lv_iload_n hx hb dL_law_1250 rfl (lv_at hl 3 rfl) ?_
  refine lv_iconst (v := 1) hx hb dL_law_1251 (by decide) ?_
  refine lv_iadd hx hb dL_law_1252 ?_
  refine lv_topi (fun y1 e2 => ?_)
  obtain rfl : y1 = 1 := e2.trans (by decide)
  refine z_sld 1 hx hb hXs hbl hbA hS (by decide) (Nat.le_of_ble_eq_true rfl) (Nat.le_of_ble_eq_true rfl) dL_law_1253 ?_
  refine lv_aload_n hx hb dL_law_1254 rfl (lv_at hl 0 rfl) ?_
  refine lv_iload_n hx hb dL_law_1255 rfl (lv_at hl 3 rfl) ?_
  refine lv_iconst (v := 2) hx hb dL_law_1256 (by decide) ?_
  refine lv_iadd hx hb dL_law_1257 ?_
  refine lv_topi (fun y3 e4 => ?_)
  obtain rfl : y3 = 2 := e4.trans (by decide)
  refine z_sld 2 hx hb hXs hbl hbA hS (by decide) (Nat.le_of_ble_eq_true rfl) (Nat.le_of_ble_eq_true rfl) dL_law_1258 ?_
  refine z_callVi (As := [.int (xs 1), .int (xs 2)]) C hz hS hA hl (k_X7_placed l D cy f o fa fi nu fm co en ke (xs 1) (xs 2) ge ea ma (fun _ => fun _ => 0) px_o px_en hG hE hM) zyX7_placed mML_144 px_o zl7 rfl rfl (Nat.le_of_ble_eq_true rfl) ⟨Nat.le_of_ble_eq_true rfl, Nat.le_of_ble_eq_true rfl⟩ ⟨Nat.le_of_ble_eq_true rfl, Nat.le_of_ble_eq_true rfl⟩ dL_law_1259 (fun r f5 H locs h6 hz hS => ?_)
  obtain ⟨rfl, k7⟩ := h6
  refine lv_aload_n hx hb dL_law_1262 rfl (lv_at hl 2 rfl) ?_
  refine lv_aload_n hx hb dL_law_1263 rfl (lv_at hl 0 rfl) ?_
  refine lv_iload_n hx hb dL_law_1264 rfl (lv_at hl 3 rfl) ?_
  refine lv_iconst (v := 1) hx hb dL_law_1265 (by decide) ?_
  refine lv_iadd hx hb dL_law_1266 ?_
  refine lv_topi (fun y8 e9 => ?_)
  obtain rfl : y8 = 1 := e9.trans (by decide)
  refine z_sld 1 hx hb hXs hbl hbA hS (by decide) (Nat.le_of_ble_eq_true rfl) (Nat.le_of_ble_eq_true rfl) dL_law_1267 ?_
  refine lv_aload_n hx hb dL_law_1268 rfl (lv_at hl 0 rfl) ?_
  refine lv_iload_n hx hb dL_law_1269 rfl (lv_at hl 3 rfl) ?_
  refine lv_iconst (v := 2) hx hb dL_law_1270 (by decide) ?_
  refine lv_iadd hx hb dL_law_1271 ?_
  refine lv_topi (fun y10 e11 => ?_)
  obtain rfl : y10 = 2 := e11.trans (by decide)
  refine z_sld 2 hx hb hXs hbl hbA hS (by decide) (Nat.le_of_ble_eq_true rfl) (Nat.le_of_ble_eq_true rfl) dL_law_1272 ?_
  have a12 : f5 mo = some (.inr (8, [.int 0, .int (-1), .int 0, .ref wev, .int 0, .ref wnb, .int 0, .ref wki, .ref wmy, .ref wce, .ref wiw, .ref wli, .ref wha, .ref wwt, .int 0, .ref wfy, .ref wfk, .int 0, .ref wem, .ref wna, .ref wpl, .ref whs, .long 1, .int 0, .ref wk1, .ref wk2, .ref wk3])) := k7 _ _ pm_mo 
  refine z_callVi (As := [.int (xs 1), .int (xs 2)]) C hz hS hA hl (k_X8_placed l D cy f5 mo wev wnb wki wmy wce wiw wli wha wwt wfy wfk wem wna wpl whs wk1 wk2 wk3 (xs 1) (xs 2) a12 ) zyX8_placed mML_147 a12 zl8 rfl rfl (Nat.le_of_ble_eq_true rfl) ⟨Nat.le_of_ble_eq_true rfl, Nat.le_of_ble_eq_true rfl⟩ ⟨Nat.le_of_ble_eq_true rfl, Nat.le_of_ble_eq_true rfl⟩ dL_law_1273 (fun r f13 H locs h14 hz hS => ?_)
  subst h14
  refine lv_icmp_eq (tgt := 1360) hx hb dL_law_1276 (by decide) (fun _ => ?_) (fun c15 => absurd rfl c15)
  refine W.widen (k := 200) (n := 20000) (Nat.le_of_ble_eq_true rfl) (Nat.le_of_ble_eq_true rfl) ?_
  exact fin _ _ _ hS (lv_sub hl [0, 3] rfl)
set_option maxHeartbeats 4000000 in
set_option maxRecDepth 100000 in
theorem law_case_31 {p : Program} {l : Launch} {e : Env} {s : State} {m : MethodId} {below : List Frame} {meth : Method} {c : Code} {D : va_G} {cy : Nat → ClassId} {b : Nat} {xs : Nat → Int32} (C : zC D cy p s m #[Value.ref b] meth c RL cL_law 4) (hXs : va_X b 5 xs s s.heap) (hbl : b < s.heap.size) (hbA : ¬ zLA s b) (fin : ∀ (H : Heap) (locs : List Loc) (ls : Array Slot), va_S (zLA s) s.heap H locs → lv_has ls 4 [(0, .ref b), (3, .int 0)] → W p l e room_1 s m #[Value.ref b] below meth c H locs 200 20000 (lw_Z below #[Value.ref b] s) (F0 m 1360 ls [])) {fX f : zM} {o fa fi nu fm co en ke ev al ra kn vq : Nat} {ge : Nat → Option Nat} {ea ma : Nat → Nat} {mo wev wnb wki wmy wce wiw wli wha wwt wfy wfk wem wna wpl whs wk1 wk2 wk3 : Nat} (hXX : zXF cy fX o fa fi nu fm co en ke ev al ra kn vq ge ea ma) (hn_mo : fX mo = none) (hn_wev : fX wev = none) (hn_wnb : fX wnb = none) (hn_wki : fX wki = none) (hn_wmy : fX wmy = none) (hn_wce : fX wce = none) (hn_wiw : fX wiw = none) (hn_wli : fX wli = none) (hn_wha : fX wha = none) (hn_wwt : fX wwt = none) (hn_wfy : fX wfy = none) (hn_wfk : fX wfk = none) (hn_wem : fX wem = none) (hn_wna : fX wna = none) (hn_wpl : fX wpl = none) (hn_whs : fX whs = none) (hn_wk1 : fX wk1 = none) (hn_wk2 : fX wk2 = none) (hn_wk3 : fX wk3 = none) (hXF : zXF cy f o fa fi nu fm co en ke ev al ra kn vq ge ea ma) (hMF : zMF cy f mo wev wnb wki wmy wce wiw wli wha wwt wfy wfk wem wna wpl whs wk1 wk2 wk3) {H : Heap} {locs : List Loc} {ls : Array Slot} (hz : zH D (zLA s) f H) (hS : va_S (zLA s) s.heap H locs) (hl : lv_has ls 4 [(0, .ref b), (1, .ref o), (2, .ref mo), (3, .int 0)]) : W p l e room_1 s m #[Value.ref b] below meth c H locs 100 5000 (lw_Z below #[Value.ref b] s) (F0 m 1281 ls []) := by
  have hx := C.1
  have hb := C.2.1
  have hA : ∀ q, s.heap.size ≤ q → zLA s q := fun q h => h
  obtain ⟨px_o, px_fa, px_ev, px_fi, px_al, px_ra, px_nu, px_fm, px_co, px_en, px_ke, har, hG, hE, hM⟩ := hXF
  obtain ⟨pm_mo, pm_wev, pm_wnb, pm_wki, pm_wmy, pm_wce, pm_wiw, pm_wli, pm_wha, pm_wwt, pm_wfy, pm_wfk, pm_wem, pm_wna, pm_wpl, pm_whs, pm_wk1, pm_wk2, pm_wk3, nkm, nlh, nkl, nkh, nml, nmh, nc1, nc2, nc3, nw1, nw2, nw3, nw4⟩ := hMF
  obtain ⟨hx_o, hx_fa, hx_ev, hx_fi, hx_al, hx_ra, hx_nu, hx_fm, hx_co, hx_en, hx_ke, _, _, hxE, hxM⟩ := hXX
  refine lv_aload_n hx hb dL_law_1281 rfl (lv_at hl 1 rfl) ?_
  refine lv_aload_n hx hb dL_law_1282 rfl (lv_at hl 0 rfl) ?_
  refine lv_iload_n hx hb dL_law_1283 rfl (lv_at hl 3 rfl) ?_
  refine lv_iconst (v := 1) hx hb dL_law_1284 (by decide) ?_
  refine lv_iadd hx hb dL_law_1285 ?_
  refine lv_topi (fun y1 e2 => ?_)
  obtain rfl : y1 = 1 := e2.trans (by decide)
  refine z_sld 1 hx hb hXs hbl hbA hS (by decide) (Nat.le_of_ble_eq_true rfl) (Nat.le_of_ble_eq_true rfl) dL_law_1286 ?_
  refine lv_aload_n hx hb dL_law_1287 rfl (lv_at hl 0 rfl) ?_
  refine lv_iload_n hx hb dL_law_1288 rfl (lv_at hl 3 rfl) ?_
  refine lv_iconst (v := 2) hx hb dL_law_1289 (by decide) ?_
  refine lv_iadd hx hb dL_law_1290 ?_
  refine lv_topi (fun y3 e4 => ?_)
  obtain rfl : y3 = 2 := e4.trans (by decide)
  refine z_sld 2 hx hb hXs hbl hbA hS (by decide) (Nat.le_of_ble_eq_true rfl) (Nat.le_of_ble_eq_true rfl) dL_law_1291 ?_
  refine z_callVi (As := [.int (xs 1), .int (xs 2)]) C hz hS hA hl (k_X7_put l D cy f o fa fi nu fm co en ke (xs 1) (xs 2) px_o ) zyX7_put mML_148 px_o zl7 rfl rfl (Nat.le_of_ble_eq_true rfl) ⟨Nat.le_of_ble_eq_true rfl, Nat.le_of_ble_eq_true rfl⟩ ⟨Nat.le_of_ble_eq_true rfl, Nat.le_of_ble_eq_true rfl⟩ dL_law_1292 (fun r f5 H locs h6 hz hS => ?_)
  obtain ⟨rfl, k7⟩ := h6
  refine lv_aload_n hx hb dL_law_1295 rfl (lv_at hl 2 rfl) ?_
  refine lv_aload_n hx hb dL_law_1296 rfl (lv_at hl 0 rfl) ?_
  refine lv_iload_n hx hb dL_law_1297 rfl (lv_at hl 3 rfl) ?_
  refine lv_iconst (v := 1) hx hb dL_law_1298 (by decide) ?_
  refine lv_iadd hx hb dL_law_1299 ?_
  refine lv_topi (fun y8 e9 => ?_)
  obtain rfl : y8 = 1 := e9.trans (by decide)
  refine z_sld 1 hx hb hXs hbl hbA hS (by decide) (Nat.le_of_ble_eq_true rfl) (Nat.le_of_ble_eq_true rfl) dL_law_1300 ?_
  refine lv_aload_n hx hb dL_law_1301 rfl (lv_at hl 0 rfl) ?_
  refine lv_iload_n hx hb dL_law_1302 rfl (lv_at hl 3 rfl) ?_
  refine lv_iconst (v := 2) hx hb dL_law_1303 (by decide) ?_
  refine lv_iadd hx hb dL_law_1304 ?_
  refine lv_topi (fun y10 e11 => ?_)
  obtain rfl : y10 = 2 := e11.trans (by decide)
  refine z_sld 2 hx hb hXs hbl hbA hS (by decide) (Nat.le_of_ble_eq_true rfl) (Nat.le_of_ble_eq_true rfl) dL_law_1305 ?_
  have a12 : f5 mo = some (.inr (8, [.int 0, .int (-1), .int 0, .ref wev, .int 0, .ref wnb, .int 0, .ref wki, .ref wmy, .ref wce, .ref wiw, .ref wli, .ref wha, .ref wwt, .int 0, .ref wfy, .ref wfk, .int 0, .ref wem, .ref wna, .ref wpl, .ref whs, .long 1, .int 0, .ref wk1, .ref wk2, .ref wk3])) := k7 _ _ pm_mo 
  refine z_callVi (As := [.int (xs 1), .int (xs 2)]) C hz hS hA hl (k_X8_put l D cy f5 mo wev wnb wki wmy wce wiw wli wha wwt wfy wfk wem wna wpl whs wk1 wk2 wk3 (xs 1) (xs 2) a12 ) zyX8_put mML_151 a12 zl8 rfl rfl (Nat.le_of_ble_eq_true rfl) ⟨Nat.le_of_ble_eq_true rfl, Nat.le_of_ble_eq_true rfl⟩ ⟨Nat.le_of_ble_eq_true rfl, Nat.le_of_ble_eq_true rfl⟩ dL_law_1306 (fun r f13 H locs h14 hz hS => ?_)
  subst h14
  refine lv_icmp_eq (tgt := 1360) hx hb dL_law_1309 (by decide) (fun _ => ?_) (fun c15 => absurd rfl c15)
  refine W.widen (k := 200) (n := 20000) (Nat.le_of_ble_eq_true rfl) (Nat.le_of_ble_eq_true rfl) ?_
  exact fin _ _ _ hS (lv_sub hl [0, 3] rfl)
set_option maxHeartbeats 4000000 in
set_option maxRecDepth 100000 in
theorem law_case_32 {p : Program} {l : Launch} {e : Env} {s : State} {m : MethodId} {below : List Frame} {meth : Method} {c : Code} {D : va_G} {cy : Nat → ClassId} {b : Nat} {xs : Nat → Int32} (C : zC D cy p s m #[Value.ref b] meth c RL cL_law 4) (hXs : va_X b 5 xs s s.heap) (hbl : b < s.heap.size) (hbA : ¬ zLA s b) (fin : ∀ (H : Heap) (locs : List Loc) (ls : Array Slot), va_S (zLA s) s.heap H locs → lv_has ls 4 [(0, .ref b), (3, .int 0)] → W p l e room_1 s m #[Value.ref b] below meth c H locs 200 20000 (lw_Z below #[Value.ref b] s) (F0 m 1360 ls [])) {fX f : zM} {o fa fi nu fm co en ke ev al ra kn vq : Nat} {ge : Nat → Option Nat} {ea ma : Nat → Nat} {mo wev wnb wki wmy wce wiw wli wha wwt wfy wfk wem wna wpl whs wk1 wk2 wk3 : Nat} (hXX : zXF cy fX o fa fi nu fm co en ke ev al ra kn vq ge ea ma) (hn_mo : fX mo = none) (hn_wev : fX wev = none) (hn_wnb : fX wnb = none) (hn_wki : fX wki = none) (hn_wmy : fX wmy = none) (hn_wce : fX wce = none) (hn_wiw : fX wiw = none) (hn_wli : fX wli = none) (hn_wha : fX wha = none) (hn_wwt : fX wwt = none) (hn_wfy : fX wfy = none) (hn_wfk : fX wfk = none) (hn_wem : fX wem = none) (hn_wna : fX wna = none) (hn_wpl : fX wpl = none) (hn_whs : fX whs = none) (hn_wk1 : fX wk1 = none) (hn_wk2 : fX wk2 = none) (hn_wk3 : fX wk3 = none) (hXF : zXF cy f o fa fi nu fm co en ke ev al ra kn vq ge ea ma) (hMF : zMF cy f mo wev wnb wki wmy wce wiw wli wha wwt wfy wfk wem wna wpl whs wk1 wk2 wk3) {H : Heap} {locs : List Loc} {ls : Array Slot} (hz : zH D (zLA s) f H) (hS : va_S (zLA s) s.heap H locs) (hl : lv_has ls 4 [(0, .ref b), (1, .ref o), (2, .ref mo), (3, .int 0)]) : W p l e room_1 s m #[Value.ref b] below meth c H locs 100 5000 (lw_Z below #[Value.ref b] s) (F0 m 1314 ls []) := by
  have hx := C.1
  have hb := C.2.1
  have hA : ∀ q, s.heap.size ≤ q → zLA s q := fun q h => h
  obtain ⟨px_o, px_fa, px_ev, px_fi, px_al, px_ra, px_nu, px_fm, px_co, px_en, px_ke, har, hG, hE, hM⟩ := hXF
  obtain ⟨pm_mo, pm_wev, pm_wnb, pm_wki, pm_wmy, pm_wce, pm_wiw, pm_wli, pm_wha, pm_wwt, pm_wfy, pm_wfk, pm_wem, pm_wna, pm_wpl, pm_whs, pm_wk1, pm_wk2, pm_wk3, nkm, nlh, nkl, nkh, nml, nmh, nc1, nc2, nc3, nw1, nw2, nw3, nw4⟩ := hMF
  obtain ⟨hx_o, hx_fa, hx_ev, hx_fi, hx_al, hx_ra, hx_nu, hx_fm, hx_co, hx_en, hx_ke, _, _, hxE, hxM⟩ := hXX
  refine lv_aload_n hx hb dL_law_1314 rfl (lv_at hl 1 rfl) ?_
  refine lv_aload_n hx hb dL_law_1315 rfl (lv_at hl 0 rfl) ?_
  refine lv_iload_n hx hb dL_law_1316 rfl (lv_at hl 3 rfl) ?_
  refine lv_iconst (v := 1) hx hb dL_law_1317 (by decide) ?_
  refine lv_iadd hx hb dL_law_1318 ?_
  refine lv_topi (fun y1 e2 => ?_)
  obtain rfl : y1 = 1 := e2.trans (by decide)
  refine z_sld 1 hx hb hXs hbl hbA hS (by decide) (Nat.le_of_ble_eq_true rfl) (Nat.le_of_ble_eq_true rfl) dL_law_1319 ?_
  refine z_callVi (As := [.int (xs 1)]) C hz hS hA hl (k_X7_get l D cy f o fa fi nu fm co en ke (xs 1) px_o ) zyX7_get mML_152 px_o zl7 rfl rfl (Nat.le_of_ble_eq_true rfl) ⟨Nat.le_of_ble_eq_true rfl, Nat.le_of_ble_eq_true rfl⟩ ⟨Nat.le_of_ble_eq_true rfl, Nat.le_of_ble_eq_true rfl⟩ dL_law_1320 (fun r f3 H locs h4 hz hS => ?_)
  obtain ⟨rfl, k5⟩ := h4
  refine lv_aload_n hx hb dL_law_1323 rfl (lv_at hl 2 rfl) ?_
  refine lv_aload_n hx hb dL_law_1324 rfl (lv_at hl 0 rfl) ?_
  refine lv_iload_n hx hb dL_law_1325 rfl (lv_at hl 3 rfl) ?_
  refine lv_iconst (v := 1) hx hb dL_law_1326 (by decide) ?_
  refine lv_iadd hx hb dL_law_1327 ?_
  refine lv_topi (fun y6 e7 => ?_)
  obtain rfl : y6 = 1 := e7.trans (by decide)
  refine z_sld 1 hx hb hXs hbl hbA hS (by decide) (Nat.le_of_ble_eq_true rfl) (Nat.le_of_ble_eq_true rfl) dL_law_1328 ?_
  have a8 : f3 mo = some (.inr (8, [.int 0, .int (-1), .int 0, .ref wev, .int 0, .ref wnb, .int 0, .ref wki, .ref wmy, .ref wce, .ref wiw, .ref wli, .ref wha, .ref wwt, .int 0, .ref wfy, .ref wfk, .int 0, .ref wem, .ref wna, .ref wpl, .ref whs, .long 1, .int 0, .ref wk1, .ref wk2, .ref wk3])) := k5 _ _ pm_mo 
  refine z_callVi (As := [.int (xs 1)]) C hz hS hA hl (k_X8_get l D cy f3 mo wev wnb wki wmy wce wiw wli wha wwt wfy wfk wem wna wpl whs wk1 wk2 wk3 (xs 1) a8 ) zyX8_get mML_155 a8 zl8 rfl rfl (Nat.le_of_ble_eq_true rfl) ⟨Nat.le_of_ble_eq_true rfl, Nat.le_of_ble_eq_true rfl⟩ ⟨Nat.le_of_ble_eq_true rfl, Nat.le_of_ble_eq_true rfl⟩ dL_law_1329 (fun r f9 H locs h10 hz hS => ?_)
  subst h10
  refine lv_icmp_eq (tgt := 1360) hx hb dL_law_1332 (by decide) (fun _ => ?_) (fun c11 => absurd rfl c11)
  refine W.widen (k := 200) (n := 20000) (Nat.le_of_ble_eq_true rfl) (Nat.le_of_ble_eq_true rfl) ?_
  exact fin _ _ _ hS (lv_sub hl [0, 3] rfl)
set_option maxHeartbeats 4000000 in
set_option maxRecDepth 100000 in
theorem law_case_33 {p : Program} {l : Launch} {e : Env} {s : State} {m : MethodId} {below : List Frame} {meth : Method} {c : Code} {D : va_G} {cy : Nat → ClassId} {b : Nat} {xs : Nat → Int32} (C : zC D cy p s m #[Value.ref b] meth c RL cL_law 4) (hXs : va_X b 5 xs s s.heap) (hbl : b < s.heap.size) (hbA : ¬ zLA s b) (fin : ∀ (H : Heap) (locs : List Loc) (ls : Array Slot), va_S (zLA s) s.heap H locs → lv_has ls 4 [(0, .ref b), (3, .int 0)] → W p l e room_1 s m #[Value.ref b] below meth c H locs 200 20000 (lw_Z below #[Value.ref b] s) (F0 m 1360 ls [])) {fX f : zM} {o fa fi nu fm co en ke ev al ra kn vq : Nat} {ge : Nat → Option Nat} {ea ma : Nat → Nat} {mo wev wnb wki wmy wce wiw wli wha wwt wfy wfk wem wna wpl whs wk1 wk2 wk3 : Nat} (hXX : zXF cy fX o fa fi nu fm co en ke ev al ra kn vq ge ea ma) (hn_mo : fX mo = none) (hn_wev : fX wev = none) (hn_wnb : fX wnb = none) (hn_wki : fX wki = none) (hn_wmy : fX wmy = none) (hn_wce : fX wce = none) (hn_wiw : fX wiw = none) (hn_wli : fX wli = none) (hn_wha : fX wha = none) (hn_wwt : fX wwt = none) (hn_wfy : fX wfy = none) (hn_wfk : fX wfk = none) (hn_wem : fX wem = none) (hn_wna : fX wna = none) (hn_wpl : fX wpl = none) (hn_whs : fX whs = none) (hn_wk1 : fX wk1 = none) (hn_wk2 : fX wk2 = none) (hn_wk3 : fX wk3 = none) (hXF : zXF cy f o fa fi nu fm co en ke ev al ra kn vq ge ea ma) (hMF : zMF cy f mo wev wnb wki wmy wce wiw wli wha wwt wfy wfk wem wna wpl whs wk1 wk2 wk3) {H : Heap} {locs : List Loc} {ls : Array Slot} (hz : zH D (zLA s) f H) (hS : va_S (zLA s) s.heap H locs) (hl : lv_has ls 4 [(0, .ref b), (1, .ref o), (2, .ref mo), (3, .int 0)]) : W p l e room_1 s m #[Value.ref b] below meth c H locs 100 5000 (lw_Z below #[Value.ref b] s) (F0 m 1337 ls []) := by
  have hx := C.1
  have hb := C.2.1
  have hA : ∀ q, s.heap.size ≤ q → zLA s q := fun q h => h
  obtain ⟨px_o, px_fa, px_ev, px_fi, px_al, px_ra, px_nu, px_fm, px_co, px_en, px_ke, har, hG, hE, hM⟩ := hXF
  obtain ⟨pm_mo, pm_wev, pm_wnb, pm_wki, pm_wmy, pm_wce, pm_wiw, pm_wli, pm_wha, pm_wwt, pm_wfy, pm_wfk, pm_wem, pm_wna, pm_wpl, pm_whs, pm_wk1, pm_wk2, pm_wk3, nkm, nlh, nkl, nkh, nml, nmh, nc1, nc2, nc3, nw1, nw2, nw3, nw4⟩ := hMF
  obtain ⟨hx_o, hx_fa, hx_ev, hx_fi, hx_al, hx_ra, hx_nu, hx_fm, hx_co, hx_en, hx_ke, _, _, hxE, hxM⟩ := hXX
  refine lv_aload_n hx hb dL_law_1337 rfl (lv_at hl 1 rfl) ?_
  refine lv_aload_n hx hb dL_law_1338 rfl (lv_at hl 0 rfl) ?_
  refine lv_iload_n hx hb dL_law_1339 rfl (lv_at hl 3 rfl) ?_
  refine lv_iconst (v := 1) hx hb dL_law_1340 (by decide) ?_
  refine lv_iadd hx hb dL_law_1341 ?_
  refine lv_topi (fun y1 e2 => ?_)
  obtain rfl : y1 = 1 := e2.trans (by decide)
  refine z_sld 1 hx hb hXs hbl hbA hS (by decide) (Nat.le_of_ble_eq_true rfl) (Nat.le_of_ble_eq_true rfl) dL_law_1342 ?_
  refine z_callVi (As := [.int (xs 1)]) C hz hS hA hl (k_X7_count l D cy f o fa fi nu fm co en ke (xs 1) 0 (-1) 0 ev al ra ge ea ma kn vq px_o px_fa px_ev px_fi px_en px_ke hG hE) zyX7_count mML_156 px_o zl7 rfl rfl (Nat.le_of_ble_eq_true rfl) ⟨Nat.le_of_ble_eq_true rfl, Nat.le_of_ble_eq_true rfl⟩ ⟨Nat.le_of_ble_eq_true rfl, Nat.le_of_ble_eq_true rfl⟩ dL_law_1343 (fun r f3 H locs h4 hz hS => ?_)
  obtain ⟨rfl, k5⟩ := h4
  refine lv_aload_n hx hb dL_law_1346 rfl (lv_at hl 2 rfl) ?_
  refine lv_aload_n hx hb dL_law_1347 rfl (lv_at hl 0 rfl) ?_
  refine lv_iload_n hx hb dL_law_1348 rfl (lv_at hl 3 rfl) ?_
  refine lv_iconst (v := 1) hx hb dL_law_1349 (by decide) ?_
  refine lv_iadd hx hb dL_law_1350 ?_
  refine lv_topi (fun y6 e7 => ?_)
  obtain rfl : y6 = 1 := e7.trans (by decide)
  refine z_sld 1 hx hb hXs hbl hbA hS (by decide) (Nat.le_of_ble_eq_true rfl) (Nat.le_of_ble_eq_true rfl) dL_law_1351 ?_
  have a8 : f3 mo = some (.inr (8, [.int 0, .int (-1), .int 0, .ref wev, .int 0, .ref wnb, .int 0, .ref wki, .ref wmy, .ref wce, .ref wiw, .ref wli, .ref wha, .ref wwt, .int 0, .ref wfy, .ref wfk, .int 0, .ref wem, .ref wna, .ref wpl, .ref whs, .long 1, .int 0, .ref wk1, .ref wk2, .ref wk3])) := k5 _ _ pm_mo 
  have a9 : f3 wev = some (.inl (cy 0, 8, .inl (fun _ => 0))) := k5 _ _ pm_wev 
  have a10 : f3 whs = some (.inl (cy 0, 4, .inl (fun _ => 0))) := k5 _ _ pm_whs 
  refine z_callVi (As := [.int (xs 1)]) C hz hS hA hl (k_X8_count l D cy f3 mo wev wnb wki wmy wce wiw wli wha wwt wfy wfk wem wna wpl whs wk1 wk2 wk3 (xs 1) a8 a9 a10 ) zyX8_count mML_159 a8 zl8 rfl rfl (Nat.le_of_ble_eq_true rfl) ⟨Nat.le_of_ble_eq_true rfl, Nat.le_of_ble_eq_true rfl⟩ ⟨Nat.le_of_ble_eq_true rfl, Nat.le_of_ble_eq_true rfl⟩ dL_law_1352 (fun r f11 H locs h12 hz hS => ?_)
  subst h12
  refine lv_icmp_eq (tgt := 1360) hx hb dL_law_1355 (by decide) (fun _ => ?_) (fun c13 => absurd (zcount_eq _).symm c13)
  refine W.widen (k := 200) (n := 20000) (Nat.le_of_ble_eq_true rfl) (Nat.le_of_ble_eq_true rfl) ?_
  exact fin _ _ _ hS (lv_sub hl [0, 3] rfl)
