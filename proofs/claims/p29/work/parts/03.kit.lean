/-! A WORLD AS A PARTIAL MAP of addresses: f a = some e says what stands at a; nothing is said of the rest. -/
abbrev zM : Type := Nat → Option va_E
/-- the arrays' kinds: int, long, boolean, and rows of Figure, Family, Constant, Enumeration -/
def zT (cy : Nat → ClassId) : List (ClassId × FieldType) := [(cy 0, .int), (cy 1, .long), (cy 2, .boolean), (cy 3, .object RX4), (cy 4, .object RX3), (cy 5, .object RX0), (cy 6, .object RX1)]
def zH (D : va_G) (A : Nat → Prop) (f : zM) (H : Heap) : Prop := ∀ (a : Nat) (e : va_E), f a = some e → va_at D vwCl (a, e) H ∧ A a
def zA (f : zM) (sz : Nat) : Nat → Prop := fun q => (∃ e : va_E, f q = some e) ∨ sz ≤ q
def zW (U : State) : Prop := ∀ w ∈ zTbl, ∀ a : Array Value, w.before a U = true
def zS (D : va_G) (cy : Nat → ClassId) (f : zM) (sz : Nat) (U : State) : Prop := U.heap.size = sz ∧ zH D (zA f sz) f U.heap ∧ va_K D vwCl (zT cy) U ∧ zW U
def zB (D : va_G) (f : zM) (sz : Nat) : zM → State → Prop := fun f1 t => zH D (zA f sz) f1 t.heap
theorem zTbl_good {w : Cond} (h : w ∈ zTbl) : zgood w = true := (List.mem_filter.mp h).2
theorem zW_warm {s U : State} (hW : s.WarmedH U.vm) (h : zW s) : zW U := by
  intro w hw a
  have g := zTbl_good hw
  have h0 := h w hw a
  cases w <;> first
    | exact word_at hW (Or.inl g) h0
    | exact word_at hW (Or.inr ⟨_, rfl⟩) h0
    | exact va_Nw.use rfl (va_Nw.warmF hW (va_Nw.of rfl h0))
    | exact va_Nw.use rfl (va_Nw.warmM hW (va_Nw.of rfl h0))
    | skip
  rename_i ty
  cases ty <;> first
    | exact va_AO.use (va_AO.moved hW.alike (va_AO.of h0))
    | exact word_at hW (Or.inl g) h0
theorem zW_calling {U : State} {g : JFrame} {mk : MethodId} {a : Array Value} (h : zW U) : zW (U.calling g mk a) := zW_warm (State.WarmedH.refl U) h
theorem zW_of {args : Array Value} {s : State} (h : ∀ w ∈ zTbl, w.before args s = true) : zW s := by
  intro w hw a
  have g := zTbl_good hw
  have h0 := h w hw
  cases w <;> first
    | exact word_at (State.WarmedH.refl s) (Or.inl g) h0
    | exact word_at (State.WarmedH.refl s) (Or.inr ⟨_, rfl⟩) h0
    | exact va_Nw.use rfl (va_Nw.of rfl h0)
    | skip
  rename_i ty
  cases ty <;> first
    | exact va_AO.use (va_AO.of h0)
    | exact word_at (State.WarmedH.refl s) (Or.inl g) h0
/-- the map as a list of cells, in the order of the addresses -/
theorem z_list {D : va_G} {A : Nat → Prop} {f : zM} {H : Heap} (h : zH D A f H) : ∃ ws : va_W, va_P D vwCl ws H ∧ va_D A ws ∧ ∀ (a : Nat) (e : va_E), f a = some e ↔ (a, e) ∈ ws := by
  have key : ∀ (a : Nat) (e : va_E), f a = some e ↔ (a, e) ∈ (List.range H.size).filterMap (fun b => (f b).map (fun x => (b, x))) := by
    intro a e
    rw [List.mem_filterMap]
    constructor
    · intro q
      have hl : a < H.size := (h a e q).1.lt
      exact ⟨a, List.mem_range.mpr hl, by rw [q]; rfl⟩
    · rintro ⟨b, -, q⟩
      cases hb : f b with
      | none => rw [hb] at q; cases q
      | some x =>
        rw [hb] at q
        have q2 : (b, x) = (a, e) := Option.some.inj q
        cases q2
        exact hb
  have hord : List.Pairwise (fun (p q : Nat × va_E) => p.1 < q.1) ((List.range H.size).filterMap (fun b => (f b).map (fun x => (b, x)))) := by
    refine List.Pairwise.filterMap (R := fun a b => a < b) _ ?_ List.pairwise_lt_range
    intro a a' haa b hb b' hb'
    cases h1 : f a with
    | none => rw [h1] at hb; cases hb
    | some x =>
      cases h2 : f a' with
      | none => rw [h2] at hb'; cases hb'
      | some y =>
        rw [h1] at hb
        rw [h2] at hb'
        cases hb
        cases hb'
        exact haa
  refine ⟨_, fun k q hk => ?_, ⟨fun i j p q hi hj hpq => ?_, fun k q hk => ?_⟩, key⟩
  · exact (h q.1 q.2 ((key q.1 q.2).mpr (List.mem_of_getElem? hk))).1
  · rcases Nat.lt_trichotomy i j with hij | hij | hij
    · exfalso
      obtain ⟨hi1, hi2⟩ := List.getElem?_eq_some_iff.mp hi
      obtain ⟨hj1, hj2⟩ := List.getElem?_eq_some_iff.mp hj
      have := List.pairwise_iff_getElem.mp hord i j hi1 hj1 hij
      rw [hi2, hj2] at this
      omega
    · exact hij
    · exfalso
      obtain ⟨hi1, hi2⟩ := List.getElem?_eq_some_iff.mp hi
      obtain ⟨hj1, hj2⟩ := List.getElem?_eq_some_iff.mp hj
      have := List.pairwise_iff_getElem.mp hord j i hj1 hi1 hij
      rw [hi2, hj2] at this
      omega
  · exact (h q.1 q.2 ((key q.1 q.2).mpr (List.mem_of_getElem? hk))).2
theorem z_one {D : va_G} {A : Nat → Prop} {f : zM} {H : Heap} (h : zH D A f H) {a : Nat} {e : va_E} (ha : f a = some e) : va_P D vwCl [(a, e)] H := by
  intro k q hk
  have hz : k < 1 := (List.getElem?_eq_some_iff.mp hk).1
  rw [show k = 0 by omega] at hk
  cases hk
  exact (h a e ha).1
theorem z_set {D : va_G} {A : Nat → Prop} {f : zM} {H : Heap} (h : zH D A f H) {a : Nat} {e0 : va_E} (ha : f a = some e0) : ∃ (ws : va_W) (k : Nat), va_P D vwCl ws H ∧ va_D A ws ∧ ws[k]? = some (a, e0) ∧ (∀ (b : Nat) (eb : va_E), f b = some eb → ∃ j : Nat, ws[j]? = some (b, eb)) ∧
    ∀ (e : va_E) (H1 : Heap), va_P D vwCl (ws.set k (a, e)) H1 → va_D A (ws.set k (a, e)) → zH D A (va_up f a (some e)) H1 := by
  obtain ⟨ws, hP, hD, hm⟩ := z_list h
  obtain ⟨k, hk⟩ := List.getElem?_of_mem ((hm a e0).mp ha)
  have hl := (List.getElem?_eq_some_iff.mp hk).1
  refine ⟨ws, k, hP, hD, hk, fun b eb hb => List.getElem?_of_mem ((hm b eb).mp hb), fun e H1 hP1 hD1 b eb hb => ?_⟩
  by_cases hba : b = a
  · subst hba
    rw [va_up_self] at hb
    cases hb
    have hk1 : (ws.set k (b, e))[k]? = some (b, e) := List.getElem?_set_self hl
    exact ⟨hP1 k _ hk1, hD1.2 k _ hk1⟩
  · rw [va_up_ne f _ hba] at hb
    obtain ⟨j, hj⟩ := List.getElem?_of_mem ((hm b eb).mp hb)
    have hjk : k ≠ j := by
      intro q
      subst q
      rw [hk] at hj
      cases hj
      exact hba rfl
    have hj1 : (ws.set k (a, e))[j]? = some (b, eb) := by rw [List.getElem?_set_ne hjk]; exact hj
    exact ⟨hP1 j _ hj1, hD1.2 j _ hj1⟩
theorem z_push {D : va_G} {A : Nat → Prop} {f : zM} {H : Heap} (h : zH D A f H) : ∃ (ws : va_W), va_P D vwCl ws H ∧ va_D A ws ∧
    ∀ (q : Nat) (e : va_E) (H1 : Heap), va_P D vwCl (ws ++ [(q, e)]) H1 → va_D A (ws ++ [(q, e)]) → f q = none ∧ zH D A (va_up f q (some e)) H1 := by
  obtain ⟨ws, hP, hD, hm⟩ := z_list h
  refine ⟨ws, hP, hD, fun q e H1 hP1 hD1 => ?_⟩
  have hk1 : (ws ++ [(q, e)])[ws.length]? = some (q, e) := by simp
  have hn : f q = none := by
    cases hq : f q with
    | none => rfl
    | some x =>
      exfalso
      obtain ⟨j, hj⟩ := List.getElem?_of_mem ((hm q x).mp hq)
      have hl := (List.getElem?_eq_some_iff.mp hj).1
      have hj1 : (ws ++ [(q, e)])[j]? = some (q, x) := by rw [List.getElem?_append_left hl]; exact hj
      have := hD1.1 j ws.length _ _ hj1 hk1 rfl
      omega
  refine ⟨hn, fun b eb hb => ?_⟩
  by_cases hbq : b = q
  · subst hbq
    rw [va_up_self] at hb
    cases hb
    exact ⟨hP1 _ _ hk1, hD1.2 _ _ hk1⟩
  · rw [va_up_ne f _ hbq] at hb
    obtain ⟨j, hj⟩ := List.getElem?_of_mem ((hm b eb).mp hb)
    have hl := (List.getElem?_eq_some_iff.mp hj).1
    have hj1 : (ws ++ [(q, e)])[j]? = some (b, eb) := by rw [List.getElem?_append_left hl]; exact hj
    exact ⟨hP1 j _ hj1, hD1.2 j _ hj1⟩
theorem z_mono {D : va_G} {A B : Nat → Prop} {f : zM} {H : Heap} (h : zH D A f H) (hAB : ∀ q, A q → B q) : zH D B f H := fun a e q => ⟨(h a e q).1, hAB a (h a e q).2⟩
theorem z_self {D : va_G} {A : Nat → Prop} {f : zM} {H : Heap} (sz : Nat) (h : zH D A f H) : zH D (zA f sz) f H := fun a e q => ⟨(h a e q).1, Or.inl ⟨e, q⟩⟩
theorem z_in {D : va_G} {A0 : Nat → Prop} {f : zM} {H0 H : Heap} {locs : List Loc} (h : zH D A0 f H) (hS : va_S A0 H0 H locs) (hA : ∀ q, H0.size ≤ q → A0 q) : ∀ q, zA f H.size q → A0 q := by
  rintro q (⟨e, he⟩ | hq)
  · exact (h q e he).2
  · exact hA q (Nat.le_trans hS.1 hq)
/-- a class of ours, kind ci, its fields, their types -/
def zL (ci : Nat) (C : String) (T : u_T) (N : Nat) (ty : Nat → FieldType) : Prop := vwCl[ci]? = some (C, T, N) ∧ (∀ w ∈ u_ws C T N, w ∈ zTbl) ∧ (∀ k, k < N → parseFieldDescriptor (T k).2.2.1 = some (ty k)) ∧ ∀ a, a < N → ∀ b, b < N → a ≠ b → (T a).2.1 ≠ (T b).2.1
theorem zl0 : zL 0 RX0 TX0 2 tyX0 := ⟨rfl, zX0_in, tyX0_ok, nmX0⟩
theorem zl1 : zL 1 RX1 TX1 2 tyX1 := ⟨rfl, zX1_in, tyX1_ok, nmX1⟩
theorem zl2 : zL 2 RX2 TX2 4 tyX2 := ⟨rfl, zX2_in, tyX2_ok, nmX2⟩
theorem zl3 : zL 3 RX3 TX3 2 tyX3 := ⟨rfl, zX3_in, tyX3_ok, nmX3⟩
theorem zl4 : zL 4 RX4 TX4 7 tyX4 := ⟨rfl, zX4_in, tyX4_ok, nmX4⟩
theorem zl5 : zL 5 RX5 TX5 3 tyX5 := ⟨rfl, zX5_in, tyX5_ok, nmX5⟩
theorem zl6 : zL 6 RX6 TX6 3 tyX6 := ⟨rfl, zX6_in, tyX6_ok, nmX6⟩
theorem zl7 : zL 7 RX7 TX7 11 tyX7 := ⟨rfl, zX7_in, tyX7_ok, nmX7⟩
theorem zl8 : zL 8 RX8 TX8 27 tyX8 := ⟨rfl, zX8_in, tyX8_ok, nmX8⟩
/-- what holds all through a method's body -/
def zC (D : va_G) (cy : Nat → ClassId) (p : Program) (s : State) (m : MethodId) (args : Array Value) (meth : Method) (c : Code) (own : String) (cc : ByteArray) (nL : Nat) : Prop :=
  p.tables.exec = Jvm.exec ∧ c.code = cc ∧ c.maxLocals = nL ∧ s.vm.findClass own = some m.cls ∧ (∀ w ∈ zTbl, w.before args s = true) ∧ va_K D vwCl (zT cy) s ∧ zW s ∧ meth.locks = false
/-- a method that a call can name: its words -/
def zY (y : MethodName) (bytes : ByteArray) (maxL : Nat) (ret : Option FieldType) (n : Nat) (C : String) : Prop := Cond.code y bytes maxL ret ∈ zTbl ∧ Cond.instanceMethod y ∈ zTbl ∧ Cond.selects C y y ∈ zTbl ∧ Cond.initialized C ∈ zTbl ∧ y.cls = C ∧ y.cls ≠ "java/lang/invoke/MethodHandle" ∧ y.cls ≠ "java/lang/invoke/VarHandle" ∧ (parseMethodDescriptor y.desc).map (fun d => d.parameters.length) = some n
def zYs (y : MethodName) (bytes : ByteArray) (maxL : Nat) (ret : Option FieldType) (n : Nat) (C : String) : Prop := Cond.code y bytes maxL ret ∈ zTbl ∧ Cond.static y ∈ zTbl ∧ Cond.initialized C ∈ zTbl ∧ y.cls = C ∧ y.cls ≠ "java/lang/invoke/MethodHandle" ∧ y.cls ≠ "java/lang/invoke/VarHandle" ∧ (parseMethodDescriptor y.desc).map (fun d => d.parameters.length) = some n
def zYi (y : MethodName) (bytes : ByteArray) (maxL : Nat) (n : Nat) (C : String) : Prop := Cond.code y bytes maxL none ∈ zTbl ∧ Cond.instanceMethod y ∈ zTbl ∧ Cond.initialized C ∈ zTbl ∧ y.name = "<init>" ∧ y.cls = C ∧ y.cls ≠ "java/lang/invoke/MethodHandle" ∧ y.cls ≠ "java/lang/invoke/VarHandle" ∧ (parseMethodDescriptor y.desc).map (fun d => d.parameters.length) = some n
/-- contracts, by what is answered -/
def zCi (l : Launch) (D : va_G) (cy : Nat → ClassId) (y : MethodName) (cc : ByteArray) (maxL : Nat) (ret : Option FieldType) (rm : Room) (av : List Value) (f : zM) (post : Int32 → zM → Prop) : Prop := ∀ sz : Nat, Met l y [.code y cc maxL ret] rm (va_Pc av (zS D cy f sz)) (va_Qi post (zB D f sz) (zA f sz)) rm.cells rm.slots (zA f sz)
def zCl (l : Launch) (D : va_G) (cy : Nat → ClassId) (y : MethodName) (cc : ByteArray) (maxL : Nat) (ret : Option FieldType) (rm : Room) (av : List Value) (f : zM) (post : Int64 → zM → Prop) : Prop := ∀ sz : Nat, Met l y [.code y cc maxL ret] rm (va_Pc av (zS D cy f sz)) (va_Ql post (zB D f sz) (zA f sz)) rm.cells rm.slots (zA f sz)
def zCv (l : Launch) (D : va_G) (cy : Nat → ClassId) (y : MethodName) (cc : ByteArray) (maxL : Nat) (ret : Option FieldType) (rm : Room) (av : List Value) (f : zM) (post : zM → Prop) : Prop := ∀ sz : Nat, Met l y [.code y cc maxL ret] rm (va_Pc av (zS D cy f sz)) (va_Qv post (zB D f sz) (zA f sz)) rm.cells rm.slots (zA f sz)
def zCq (l : Launch) (D : va_G) (cy : Nat → ClassId) (y : MethodName) (cc : ByteArray) (maxL : Nat) (ret : Option FieldType) (rm : Room) (av : List Value) (f : zM) (post : Option Nat → zM → Prop) : Prop := ∀ sz : Nat, Met l y [.code y cc maxL ret] rm (va_Pc av (zS D cy f sz)) (va_Qq post (zB D f sz) (zA f sz)) rm.cells rm.slots (zA f sz)
theorem zPc_blind {D : va_G} {cy : Nat → ClassId} {f : zM} {sz : Nat} {av : List Value} : FrameBlind (va_Pc av (zS D cy f sz)) := by
  rintro a U g mk ⟨h1, h2, h3, h4, h5⟩
  exact ⟨h1, h2, h3, va_K.moved (u := U) (U := U.calling g mk a) (Vm.Alike.refl U.vm) h4, zW_calling h5⟩
theorem zPc_at {D : va_G} {cy : Nat → ClassId} {A : Nat → Prop} {f : zM} {H : Heap} {s : State} {av : List Value} (hz : zH D A f H) (hK : va_K D vwCl (zT cy) s) (hw : zW s) : ∀ U : State, U.heap = H → s.WarmedH U.vm → va_Pc av (zS D cy f H.size) av.toArray U := fun U hU hW => ⟨rfl, by rw [hU], by rw [hU]; exact z_self _ hz, va_K.moved hW.alike hK, zW_warm hW hw⟩
section ZMET
variable {l : Launch} {D : va_G} {cy : Nat → ClassId} {y : MethodName} {cc : ByteArray} {maxL : Nat} {ret : Option FieldType} {rm : Room} {av : List Value} {f : zM}
theorem z_body {Qc : Array Value → State → Outcome → State → Prop} {sz : Nat} (hy : plainName y.cls = true) (hlen : (lg_sl av).length ≤ maxL)
    (body : ∀ p e s m below meth c ls, zC D cy p s m av.toArray meth c y.cls cc maxL → meth.sig.returnType = ret → meth.name = y.name → s.heap.size = sz → zH D (zA f sz) f s.heap → lv_has ls maxL (lv_args 0 av) →
      W p l e rm s m av.toArray below meth c s.heap [] 0 0 (MQ below Qc av.toArray s rm.cells rm.slots (zA f sz)) (F0 m 0 ls [])) :
    Met l y [.code y cc maxL ret] rm (va_Pc av (zS D cy f sz)) Qc rm.cells rm.slots (zA f sz) := by
  refine Met.ofW (cc := cc) (maxL := maxL) (ret := ret) hy rfl ?_
  intro p e s m args below meth c s₁ B hml hv
  obtain ⟨rfl, hsz, hz, hK, hw⟩ := hv
  have hl := lv_entry av (n := maxL) hlen
  rw [lg_entry_eq]
  exact body p e s m below meth c _ ⟨B.exec, B.bytes, hml, findClass_of_methodNamed B.named, fun w h => hw w h _, hK, hw, B.notSynchronized⟩ B.returns (name_of_methodNamed B.named B.method).1 hsz hz hl
end ZMET
section ZW
variable {p : Program} {l : Launch} {e : Env} {R : Room} {s : State} {m : MethodId} {args : Array Value} {below : List Frame} {meth : Method} {c : Code} {H : Heap} {locs : List Loc} {cells slots : Nat} {Q : State → Prop}
variable {cc : ByteArray} {pc nL : Nat} {ls : Array Slot} {rest : List Value} {D : va_G} {cy : Nat → ClassId} {A : Nat → Prop} {f : zM} {a : Nat} {H0 : Heap} {own : String}
theorem z_iret {post : Int32 → zM → Prop} {f1 : zM} {v : Int32} {sz mc ms : Nat} {ret : FieldType} (C : zC D cy p s m args meth c own cc nL) (hr : meth.sig.returnType = some ret) (hn : narrow ret (.int v) = .int v) (hz : zH D (zA f sz) f1 H) (hS : va_S (zA f sz) s.heap H locs) (hp : post v f1) (hc : cells ≤ mc) (hs : slots ≤ ms) (hdg : decode cc pc = .ok (.ireturn, 1)) :
    W p l e R s m args below meth c H locs cells slots (MQ below (va_Qi post (zB D f sz) (zA f sz)) args s mc ms (zA f sz)) (F0 m pc ls [.int v]) := by
  refine W.widen hc hs ?_
  exact W.zret C.1 C.2.1 hr hn (fun t ht hW => ⟨⟨v, f1, rfl, hp, by show zH D (zA f sz) f1 t.heap; rw [ht]; exact hz⟩, hS.F ht⟩) hS.2.2 hdg C.2.2.2.2.2.2.2
theorem z_lret {post : Int64 → zM → Prop} {f1 : zM} {v : Int64} {sz mc ms : Nat} (C : zC D cy p s m args meth c own cc nL) (hr : meth.sig.returnType = some .long) (hz : zH D (zA f sz) f1 H) (hS : va_S (zA f sz) s.heap H locs) (hp : post v f1) (hc : cells ≤ mc) (hs : slots ≤ ms) (hdg : decode cc pc = .ok (.lreturn, 1)) :
    W p l e R s m args below meth c H locs cells slots (MQ below (va_Ql post (zB D f sz) (zA f sz)) args s mc ms (zA f sz)) (F0 m pc ls [.long v]) := by
  refine W.widen hc hs ?_
  exact W.lret C.1 C.2.1 hr (fun t ht hW => ⟨⟨v, f1, rfl, hp, by show zH D (zA f sz) f1 t.heap; rw [ht]; exact hz⟩, hS.F ht⟩) hS.2.2 hdg C.2.2.2.2.2.2.2
theorem z_vret {post : zM → Prop} {f1 : zM} {sz mc ms : Nat} (C : zC D cy p s m args meth c own cc nL) (hr : meth.sig.returnType = none) (hz : zH D (zA f sz) f1 H) (hS : va_S (zA f sz) s.heap H locs) (hp : post f1) (hc : cells ≤ mc) (hs : slots ≤ ms) (hdg : decode cc pc = .ok (.return_, 1)) :
    W p l e R s m args below meth c H locs cells slots (MQ below (va_Qv post (zB D f sz) (zA f sz)) args s mc ms (zA f sz)) (F0 m pc ls []) := by
  refine W.widen hc hs ?_
  exact W.vret C.1 C.2.1 hr (fun t ht hW => ⟨⟨f1, rfl, hp, by show zH D (zA f sz) f1 t.heap; rw [ht]; exact hz⟩, hS.F ht⟩) hS.2.2 hdg C.2.2.2.2.2.2.2
theorem z_aret {post : Option Nat → zM → Prop} {f1 : zM} {r : Option Nat} {v : Value} {sz mc ms : Nat} {rt : FieldType} (C : zC D cy p s m args meth c own cc nL) (hr : meth.sig.returnType = some rt) (hrt : (∃ n, rt = .object n) ∨ ∃ t, rt = .array t) (hv : va_rf r = v) (hz : zH D (zA f sz) f1 H) (hS : va_S (zA f sz) s.heap H locs) (hp : post r f1) (hc : cells ≤ mc) (hs : slots ≤ ms) (hdg : decode cc pc = .ok (.areturn, 1)) :
    W p l e R s m args below meth c H locs cells slots (MQ below (va_Qq post (zB D f sz) (zA f sz)) args s mc ms (zA f sz)) (F0 m pc ls [v]) := by
  subst hv
  refine W.widen hc hs ?_
  exact W.aret C.1 C.2.1 hr hrt (va_rf_or r) (fun t ht hW => ⟨⟨r, f1, rfl, hp, by show zH D (zA f sz) f1 t.heap; rw [ht]; exact hz⟩, hS.F ht⟩) hS.2.2 hdg C.2.2.2.2.2.2.2
theorem z_get {ci N index : Nat} {Cn : String} {T : u_T} {ty : Nat → FieldType} {fs : List Value} {k : Nat} {v : Value} (C : zC D cy p s m args meth c own cc nL) (hz : zH D A f H) (ha : f a = some (.inr (ci, fs))) (hc : zL ci Cn T N ty) (hlink : Cond.fieldLink own index (T k).1 (T k).2.1 (T k).2.2.1 ∈ zTbl) (hk : k < N) (hv : fs[k]? = some v) (hdg : decode cc pc = .ok (.getfield index, 3))
    (kk : W p l e R s m args below meth c H locs cells slots Q (F0 m (pc + 3) ls (v :: rest))) : W p l e R s m args below meth c H locs cells slots Q (F0 m pc ls (.ref a :: rest)) :=
  va_get C.1 C.2.1 C.2.2.2.2.1 hc.2.1 C.2.2.2.1 C.2.2.2.2.2.1 (z_one hz ha) 0 rfl hc.1 k hk (C.2.2.2.2.1 _ hlink) (fun _ h9 => h9) hv hdg kk
theorem z_getN {ci N index : Nat} {Cn host : String} {T : u_T} {ty : Nat → FieldType} {fs : List Value} {k : Nat} {v : Value} (C : zC D cy p s m args meth c own cc nL) (hz : zH D A f H) (ha : f a = some (.inr (ci, fs))) (hc : zL ci Cn T N ty) (hlink : Cond.fieldLinkNest own index (T k).1 (T k).2.1 (T k).2.2.1 host ∈ zTbl) (hk : k < N) (hv : fs[k]? = some v) (hdg : decode cc pc = .ok (.getfield index, 3))
    (kk : W p l e R s m args below meth c H locs cells slots Q (F0 m (pc + 3) ls (v :: rest))) : W p l e R s m args below meth c H locs cells slots Q (F0 m pc ls (.ref a :: rest)) :=
  va_getN C.1 C.2.1 C.2.2.2.2.1 hc.2.1 C.2.2.2.1 C.2.2.2.2.2.1 (z_one hz ha) 0 rfl hc.1 k hk (C.2.2.2.2.1 _ hlink) (fun _ h9 => h9) hv hdg kk
theorem z_put {ci N index : Nat} {Cn : String} {T : u_T} {ty : Nat → FieldType} {fs fs' : List Value} {k : Nat} {v : Value} (C : zC D cy p s m args meth c own cc nL) (hz : zH D A f H) (hS : va_S A H0 H locs) (ha : f a = some (.inr (ci, fs))) (hc : zL ci Cn T N ty) (hlink : Cond.fieldLink own index (T k).1 (T k).2.1 (T k).2.2.1 ∈ zTbl) (hk : k < N) (hfin : (T k).2.2.2 = false) (hn : narrow (ty k) v = v) (hfit : fits (ty k) v = true) (hl : k < fs.length) (hfs : fs.set k v = fs') (hdg : decode cc pc = .ok (.putfield index, 3))
    (kk : ∀ (H1 : Heap) (locs1 : List Loc) (f1 : zM), f1 a = some (.inr (ci, fs')) → (∀ b, b ≠ a → f1 b = f b) → zH D A f1 H1 → va_S A H0 H1 locs1 → W p l e R s m args below meth c H1 locs1 cells slots Q (F0 m (pc + 3) ls rest)) : W p l e R s m args below meth c H locs cells slots Q (F0 m pc ls (v :: .ref a :: rest)) := by
  subst hfs
  obtain ⟨ws, q0, hP, hD, hq, -, hb⟩ := z_set hz ha
  exact va_put C.1 C.2.1 C.2.2.2.2.1 hc.2.1 ty hc.2.2.1 hc.2.2.2 C.2.2.2.1 C.2.2.2.2.2.1 hP hD hS q0 hq hc.1 k hk (C.2.2.2.2.1 _ hlink) (fun _ h9 => h9) hfin (hc.2.2.1 k hk) hn hfit hl hdg (fun H1 locs1 hP1 hD1 hS1 => kk H1 locs1 _ (va_up_self f a _) (fun b h => va_up_ne f _ h) (hb _ H1 hP1 hD1) hS1)
theorem z_putF {ci N index : Nat} {Cn : String} {T : u_T} {ty : Nat → FieldType} {fs fs' : List Value} {k : Nat} {v : Value} (C : zC D cy p s m args meth c own cc nL) (hz : zH D A f H) (hS : va_S A H0 H locs) (ha : f a = some (.inr (ci, fs))) (hc : zL ci Cn T N ty) (hlink : Cond.fieldLink own index (T k).1 (T k).2.1 (T k).2.2.1 ∈ zTbl) (hk : k < N) (hfin : (T k).2.2.2 = true) (hin : meth.name = "<init>") (hdecl : (T k).1 = own) (hn : narrow (ty k) v = v) (hfit : fits (ty k) v = true) (hl : k < fs.length) (hfs : fs.set k v = fs') (hdg : decode cc pc = .ok (.putfield index, 3))
    (kk : ∀ (H1 : Heap) (locs1 : List Loc) (f1 : zM), f1 a = some (.inr (ci, fs')) → (∀ b, b ≠ a → f1 b = f b) → zH D A f1 H1 → va_S A H0 H1 locs1 → W p l e R s m args below meth c H1 locs1 cells slots Q (F0 m (pc + 3) ls rest)) : W p l e R s m args below meth c H locs cells slots Q (F0 m pc ls (v :: .ref a :: rest)) := by
  subst hfs
  obtain ⟨ws, q0, hP, hD, hq, -, hb⟩ := z_set hz ha
  exact va_putF C.1 C.2.1 C.2.2.2.2.1 hc.2.1 ty hc.2.2.1 hc.2.2.2 C.2.2.2.1 C.2.2.2.2.2.1 hP hD hS q0 hq hc.1 k hk (C.2.2.2.2.1 _ hlink) (fun _ h9 => h9) hfin hin hdecl (hc.2.2.1 k hk) hn hfit hl hdg (fun H1 locs1 hP1 hD1 hS1 => kk H1 locs1 _ (va_up_self f a _) (fun b h => va_up_ne f _ h) (hb _ H1 hP1 hD1) hS1)
theorem z_putN {ci N index : Nat} {Cn host : String} {T : u_T} {ty : Nat → FieldType} {fs fs' : List Value} {k : Nat} {v : Value} (C : zC D cy p s m args meth c own cc nL) (hz : zH D A f H) (hS : va_S A H0 H locs) (ha : f a = some (.inr (ci, fs))) (hc : zL ci Cn T N ty) (hlink : Cond.fieldLinkNest own index (T k).1 (T k).2.1 (T k).2.2.1 host ∈ zTbl) (hk : k < N) (hfin : (T k).2.2.2 = false) (hn : narrow (ty k) v = v) (hfit : fits (ty k) v = true) (hl : k < fs.length) (hfs : fs.set k v = fs') (hdg : decode cc pc = .ok (.putfield index, 3))
    (kk : ∀ (H1 : Heap) (locs1 : List Loc) (f1 : zM), f1 a = some (.inr (ci, fs')) → (∀ b, b ≠ a → f1 b = f b) → zH D A f1 H1 → va_S A H0 H1 locs1 → W p l e R s m args below meth c H1 locs1 cells slots Q (F0 m (pc + 3) ls rest)) : W p l e R s m args below meth c H locs cells slots Q (F0 m pc ls (v :: .ref a :: rest)) := by
  subst hfs
  obtain ⟨ws, q0, hP, hD, hq, -, hb⟩ := z_set hz ha
  exact va_putN C.1 C.2.1 C.2.2.2.2.1 hc.2.1 ty hc.2.2.1 hc.2.2.2 C.2.2.2.1 C.2.2.2.2.2.1 hP hD hS q0 hq hc.1 k hk (C.2.2.2.2.1 _ hlink) (fun _ h9 => h9) hfin (hc.2.2.1 k hk) hn hfit hl hdg (fun H1 locs1 hP1 hD1 hS1 => kk H1 locs1 _ (va_up_self f a _) (fun b h => va_up_ne f _ h) (hb _ H1 hP1 hD1) hS1)
theorem z_iald {n : Nat} {g : Nat → Int32} {i : Int32} (j : Nat) (C : zC D cy p s m args meth c own cc nL) (hz : zH D A f H) (ha : f a = some (.inl (cy 0, n, .inl g))) (hi : i = nI j) (hj : j < n) (hn : n < 2 ^ 31) (hdg : decode cc pc = .ok (.iaload, 1))
    (kk : W p l e R s m args below meth c H locs cells slots Q (F0 m (pc + 1) ls (.int (g j) :: rest))) : W p l e R s m args below meth c H locs cells slots Q (F0 m pc ls (.int i :: .ref a :: rest)) := by
  subst hi
  refine va_iald C.1 C.2.1 C.2.2.2.2.2.1 (z_one hz ha) 0 0 rfl rfl (vp_in_nI hj hn) hdg ?_
  rw [nI_clamp (Nat.lt_trans hj hn)]
  exact kk
theorem z_zald {n : Nat} {g : Nat → Int32} {i : Int32} (j : Nat) (C : zC D cy p s m args meth c own cc nL) (hz : zH D A f H) (ha : f a = some (.inl (cy 2, n, .inl g))) (hi : i = nI j) (hj : j < n) (hn : n < 2 ^ 31) (hdg : decode cc pc = .ok (.baload, 1))
    (kk : W p l e R s m args below meth c H locs cells slots Q (F0 m (pc + 1) ls (.int (g j) :: rest))) : W p l e R s m args below meth c H locs cells slots Q (F0 m pc ls (.int i :: .ref a :: rest)) := by
  subst hi
  refine va_zald C.1 C.2.1 C.2.2.2.2.2.1 (z_one hz ha) 0 2 rfl rfl (vp_in_nI hj hn) hdg ?_
  rw [nI_clamp (Nat.lt_trans hj hn)]
  exact kk
theorem z_lald {n : Nat} {g : Nat → Int64} {i : Int32} (j : Nat) (C : zC D cy p s m args meth c own cc nL) (hz : zH D A f H) (ha : f a = some (.inl (cy 1, n, .inr (.inl g)))) (hi : i = nI j) (hj : j < n) (hn : n < 2 ^ 31) (hdg : decode cc pc = .ok (.laload, 1))
    (kk : W p l e R s m args below meth c H locs cells slots Q (F0 m (pc + 1) ls (.long (g j) :: rest))) : W p l e R s m args below meth c H locs cells slots Q (F0 m pc ls (.int i :: .ref a :: rest)) := by
  subst hi
  refine va_lald C.1 C.2.1 C.2.2.2.2.2.1 (z_one hz ha) 0 1 rfl rfl (vp_in_nI hj hn) hdg ?_
  rw [nI_clamp (Nat.lt_trans hj hn)]
  exact kk
theorem z_iast {n : Nat} {g : Nat → Int32} {i : Int32} {x : Int32} (j : Nat) (C : zC D cy p s m args meth c own cc nL) (hz : zH D A f H) (hS : va_S A H0 H locs) (ha : f a = some (.inl (cy 0, n, .inl g))) (hi : i = nI j) (hj : j < n) (hn : n < 2 ^ 31) (hdg : decode cc pc = .ok (.iastore, 1))
    (kk : ∀ (H1 : Heap) (locs1 : List Loc) (f1 : zM), f1 a = some (.inl (cy 0, n, .inl (upd g j x))) → (∀ b, b ≠ a → f1 b = f b) → zH D A f1 H1 → va_S A H0 H1 locs1 → W p l e R s m args below meth c H1 locs1 cells slots Q (F0 m (pc + 1) ls rest)) : W p l e R s m args below meth c H locs cells slots Q (F0 m pc ls (.int x :: .int i :: .ref a :: rest)) := by
  subst hi
  obtain ⟨ws, q0, hP, hD, hq, -, hb⟩ := z_set hz ha
  refine va_iast C.1 C.2.1 C.2.2.2.2.2.1 hP hD hS q0 0 hq rfl (vp_in_nI hj hn) hdg (fun H1 locs1 hP1 hD1 hS1 => ?_)
  refine kk H1 locs1 _ ?_ (fun b h => va_up_ne f _ h) (hb _ H1 hP1 hD1) hS1
  rw [nI_clamp (Nat.lt_trans hj hn)]
  exact va_up_self f a _
theorem z_last {n : Nat} {g : Nat → Int64} {i : Int32} {x : Int64} (j : Nat) (C : zC D cy p s m args meth c own cc nL) (hz : zH D A f H) (hS : va_S A H0 H locs) (ha : f a = some (.inl (cy 1, n, .inr (.inl g)))) (hi : i = nI j) (hj : j < n) (hn : n < 2 ^ 31) (hdg : decode cc pc = .ok (.lastore, 1))
    (kk : ∀ (H1 : Heap) (locs1 : List Loc) (f1 : zM), f1 a = some (.inl (cy 1, n, .inr (.inl (vp_updL g j x)))) → (∀ b, b ≠ a → f1 b = f b) → zH D A f1 H1 → va_S A H0 H1 locs1 → W p l e R s m args below meth c H1 locs1 cells slots Q (F0 m (pc + 1) ls rest)) : W p l e R s m args below meth c H locs cells slots Q (F0 m pc ls (.long x :: .int i :: .ref a :: rest)) := by
  subst hi
  obtain ⟨ws, q0, hP, hD, hq, -, hb⟩ := z_set hz ha
  refine va_last C.1 C.2.1 C.2.2.2.2.2.1 hP hD hS q0 1 hq rfl (vp_in_nI hj hn) hdg (fun H1 locs1 hP1 hD1 hS1 => ?_)
  refine kk H1 locs1 _ ?_ (fun b h => va_up_ne f _ h) (hb _ H1 hP1 hD1) hS1
  rw [nI_clamp (Nat.lt_trans hj hn)]
  exact va_up_self f a _
theorem z_alen {cA : ClassId} {x : vp_A} {v : Int32} (t0 : Nat) {ty : FieldType} (C : zC D cy p s m args meth c own cc nL) (hz : zH D A f H) (ha : f a = some (.inl (cA, x))) (ht : (zT cy)[t0]? = some (cA, ty)) (hv : nI x.1 = v) (hdg : decode cc pc = .ok (.arraylength, 1))
    (kk : W p l e R s m args below meth c H locs cells slots Q (F0 m (pc + 1) ls (.int v :: rest))) : W p l e R s m args below meth c H locs cells slots Q (F0 m pc ls (.ref a :: rest)) :=
  va_alen C.1 C.2.1 C.2.2.2.2.2.1 (z_one hz ha) 0 t0 rfl ht hv hdg kk
theorem z_aldq {n t0 : Nat} {Cn : String} {g : Nat → Option Nat} {i : Int32} (j : Nat) (C : zC D cy p s m args meth c own cc nL) (hz : zH D A f H) (ha : f a = some (.inl (cy t0, n, .inr (.inr (.inr (.inr g)))))) (ht : (zT cy)[t0]? = some (cy t0, .object Cn)) (hi : i = nI j) (hj : j < n) (hn : n < 2 ^ 31) (hdg : decode cc pc = .ok (.aaload, 1))
    (kk : W p l e R s m args below meth c H locs cells slots Q (F0 m (pc + 1) ls (va_rf (g j) :: rest))) : W p l e R s m args below meth c H locs cells slots Q (F0 m pc ls (.int i :: .ref a :: rest)) := by
  subst hi
  refine va_aldq C.1 C.2.1 C.2.2.2.2.2.1 (z_one hz ha) 0 t0 rfl ht (vp_in_nI hj hn) hdg ?_
  rw [nI_clamp (Nat.lt_trans hj hn)]
  exact kk
theorem z_astq {n t0 v ci N : Nat} {Cn : String} {T : u_T} {ty : Nat → FieldType} {vs : List Value} {g : Nat → Option Nat} {i : Int32} (j : Nat) (C : zC D cy p s m args meth c own cc nL) (hz : zH D A f H) (hS : va_S A H0 H locs) (ha : f a = some (.inl (cy t0, n, .inr (.inr (.inr (.inr g)))))) (ht : (zT cy)[t0]? = some (cy t0, .object Cn)) (hv : f v = some (.inr (ci, vs))) (hc : zL ci Cn T N ty) (hi : i = nI j) (hj : j < n) (hn : n < 2 ^ 31) (hdg : decode cc pc = .ok (.aastore, 1))
    (kk : ∀ (H1 : Heap) (locs1 : List Loc) (f1 : zM), f1 a = some (.inl (cy t0, n, .inr (.inr (.inr (.inr (va_up g j (some v))))))) → (∀ b, b ≠ a → f1 b = f b) → zH D A f1 H1 → va_S A H0 H1 locs1 → W p l e R s m args below meth c H1 locs1 cells slots Q (F0 m (pc + 1) ls rest)) : W p l e R s m args below meth c H locs cells slots Q (F0 m pc ls (.ref v :: .int i :: .ref a :: rest)) := by
  subst hi
  obtain ⟨ws, q0, hP, hD, hq, hall, hb⟩ := z_set hz ha
  obtain ⟨qk, hqk⟩ := hall v _ hv
  refine va_astq C.1 C.2.1 C.2.2.2.2.2.1 hP hD hS q0 t0 qk ci hq ht hqk hc.1 (vp_in_nI hj hn) hdg (fun H1 locs1 hP1 hD1 hS1 => ?_)
  refine kk H1 locs1 _ ?_ (fun b h => va_up_ne f _ h) (hb _ H1 hP1 hD1) hS1
  rw [nI_clamp (Nat.lt_trans hj hn)]
  exact va_up_self f a _
theorem z_new {ci N index : Nat} {Cn : String} {T : u_T} {ty : Nat → FieldType} {fs : List Value} (C : zC D cy p s m args meth c own cc nL) (hz : zH D A f H) (hS : va_S A H0 H locs) (hA : ∀ q, H0.size ≤ q → A q) (hc : zL ci Cn T N ty) (hcl : Cond.classLink own index Cn ∈ zTbl) (hinst : Cond.instantiable Cn N ∈ zTbl) (hini : Cond.initialized Cn ∈ zTbl) (hfs : ∀ j, j < N → defaultValue (ty j) = vp_V fs j) (hcells : cells + 1 ≤ R.cells) (hslots : slots + N ≤ R.slots) (hdg : decode cc pc = .ok (.new index, 3))
    (kk : ∀ (q : Nat) (H1 : Heap) (f1 : zM), f q = none → f1 q = some (.inr (ci, fs)) → (∀ b, b ≠ q → f1 b = f b) → zH D A f1 H1 → va_S A H0 H1 locs → W p l e R s m args below meth c H1 locs (cells + 1) (slots + N) Q (F0 m (pc + 3) ls (.ref q :: rest))) : W p l e R s m args below meth c H locs cells slots Q (F0 m pc ls rest) := by
  obtain ⟨ws, hP, hD, hb⟩ := z_push hz
  refine va_new C.1 C.2.1 C.2.2.2.2.1 hc.2.1 ty hc.2.2.1 C.2.2.2.1 (C.2.2.2.2.1 _ hcl) (C.2.2.2.2.1 _ hinst) (C.2.2.2.2.1 _ hini) C.2.2.2.2.2.1 hP hD hS hA hc.1 hfs hcells hslots hdg (fun q H1 hP1 hD1 hS1 => ?_)
  obtain ⟨hn, hz1⟩ := hb q _ H1 hP1 hD1
  exact kk q H1 _ hn (va_up_self f q _) (fun b h => va_up_ne f _ h) hz1 hS1
theorem z_cy {D : va_G} {cl : List vw_C} {tys : List (ClassId × FieldType)} {cA cB : ClassId} {ty : FieldType} {U : State} {n : Nat} (hK : va_K D cl (tys ++ [(cA, ty)]) U) (ht : tys[n]? = some (cB, ty)) : cA = cB := by
  have h1 := (hK.2 tys.length (cA, ty) (by simp)).2
  have h2 := (hK.2 n (cB, ty) (by rw [List.getElem?_append_left (List.getElem?_eq_some_iff.mp ht).1]; exact ht)).2
  cases ty with
  | object C =>
    obtain ⟨_, _, _, _, _, g4⟩ := h1
    obtain ⟨_, _, _, _, _, g5⟩ := h2
    exact Option.some.inj (g4.symm.trans g5)
  | _ => exact Option.some.inj (Eq.trans (Eq.symm h1) h2)
theorem z_newa {t0 N' : Nat} {atype : ArrayType} {ty : FieldType} {n : Int32} {x : (Nat → Int32) ⊕ (Nat → Int64) ⊕ (Nat → UInt32) ⊕ (Nat → UInt64) ⊕ (Nat → Option Nat)} (C : zC D cy p s m args meth c own cc nL) (hz : zH D A f H) (hS : va_S A H0 H locs) (hA : ∀ q, H0.size ≤ q → A q) (hty : newarray.typeOf atype = ty) (harr : Cond.arrayClass ty ∈ zTbl) (ht : (zT cy)[t0]? = some (cy t0, ty)) (ha : ∀ cA : ClassId, vp_cell cA (N', x) = arrV cA N' (fun _ => defaultValue ty)) (hn : n = nI N') (hN : N' < 2 ^ 20) (hcb : componentBytes ty ≤ 8) (hcells : cells + 1 ≤ R.cells) (hslots : slots + N' ≤ R.slots) (hdg : decode cc pc = .ok (.newarray atype, 2))
    (kk : ∀ (q : Nat) (H1 : Heap) (f1 : zM), f q = none → f1 q = some (.inl (cy t0, N', x)) → (∀ b, b ≠ q → f1 b = f b) → zH D A f1 H1 → va_S A H0 H1 locs → W p l e R s m args below meth c H1 locs (cells + 1) (slots + N') Q (F0 m (pc + 2) ls (.ref q :: rest))) : W p l e R s m args below meth c H locs cells slots Q (F0 m pc ls (.int n :: rest)) := by
  subst hty
  subst hn
  obtain ⟨ws, hP, hD, hb⟩ := z_push hz
  refine va_newa (a0 := (N', x)) C.1 C.2.1 (C.2.2.2.2.1 _ harr) rfl C.2.2.2.2.2.1 hP hD hS hA ha (nI_pos (by omega)) (nI_clamp (by omega)) ?_ hcells hslots hdg (fun q cA H1 hK1 hP1 hD1 hS1 => ?_)
  · exact Nat.le_trans (Nat.mul_le_mul (Nat.le_of_lt hN) hcb) (Nat.le_of_ble_eq_true rfl)
  · have hcA := z_cy hK1 ht
    subst hcA
    obtain ⟨hn, hz1⟩ := hb q _ H1 hP1 hD1
    exact kk q H1 _ hn (va_up_self f q _) (fun b h => va_up_ne f _ h) hz1 hS1
theorem z_newq {t0 N' index : Nat} {Cn : String} {n : Int32} (C : zC D cy p s m args meth c own cc nL) (hz : zH D A f H) (hS : va_S A H0 H locs) (hA : ∀ q, H0.size ≤ q → A q) (hcl : Cond.classLink own index Cn ∈ zTbl) (hov : Cond.arrayOver (.object Cn) ∈ zTbl) (ht : (zT cy)[t0]? = some (cy t0, .object Cn)) (hn : n = nI N') (hN : N' < 2 ^ 20) (hcells : cells + 1 ≤ R.cells) (hslots : slots + N' ≤ R.slots) (hdg : decode cc pc = .ok (.anewarray index, 3))
    (kk : ∀ (q : Nat) (H1 : Heap) (f1 : zM), f q = none → f1 q = some (.inl (cy t0, N', .inr (.inr (.inr (.inr (fun _ => none)))))) → (∀ b, b ≠ q → f1 b = f b) → zH D A f1 H1 → va_S A H0 H1 locs → W p l e R s m args below meth c H1 locs (cells + 1) (slots + N') Q (F0 m (pc + 3) ls (.ref q :: rest))) : W p l e R s m args below meth c H locs cells slots Q (F0 m pc ls (.int n :: rest)) := by
  subst hn
  obtain ⟨ws, hP, hD, hb⟩ := z_push hz
  refine va_newq C.1 C.2.1 C.2.2.2.1 (C.2.2.2.2.1 _ hcl) (va_AO.of (C.2.2.2.2.1 _ hov)) C.2.2.2.2.2.1 hP hD hS hA (nI_pos (by omega)) (nI_clamp (by omega)) (by omega) hcells hslots hdg (fun q cA H1 hK1 hP1 hD1 hS1 => ?_)
  have hcA := z_cy hK1 ht
  subst hcA
  obtain ⟨hn, hz1⟩ := hb q _ H1 hP1 hD1
  exact kk q H1 _ hn (va_up_self f q _) (fun b h => va_up_ne f _ h) hz1 hS1
theorem z_objI {idx : Nat} {lv : List (Nat × Value)} (C : zC D cy p s m args meth c own cc nL) (hl : lv_has ls nL lv) (hlink : Cond.methodLink own idx Lib.objectInit ∈ zTbl) (hR1 : 1 ≤ R.frames) (hR2 : 12 ≤ R.locals) (hdg : decode cc pc = .ok (.invokespecial idx, 3))
    (kk : W p l e R s m args below meth c H locs cells slots Q (F0 m (pc + 3) ls [])) : W p l e R s m args below meth c H locs cells slots Q (F0 m pc ls [.ref a]) :=
  W.objInit C.1 C.2.1 C.2.2.2.1 (C.2.2.2.2.1 _ hlink) (C.2.2.2.2.1 _ mI_yObj) (C.2.2.2.2.1 _ mC_yObj) rfl (by rw [C.2.2.1]; exact hl.1) rfl hdg hR1 hR2 kk
theorem z_callVi {y : MethodName} {bytes : ByteArray} {maxL n index : Nat} {ret : Option FieldType} {rm : Room} {b : Addr} {As st : List Value} {Cn : String} {post : Int32 → zM → Prop} {ci N : Nat} {T : u_T} {ty : Nat → FieldType} {fs : List Value} {lv : List (Nat × Value)} (C : zC D cy p s m args meth c own cc nL) (hz : zH D A f H) (hS : va_S A H0 H locs) (hA : ∀ q, H0.size ≤ q → A q) (hl : lv_has ls nL lv) (hM : zCi l D cy y bytes maxL ret rm (.ref b :: As) f post) (hy : zY y bytes maxL ret n Cn) (hlink : Cond.methodLink own index y ∈ zTbl) (hb : f b = some (.inr (ci, fs))) (hcl : zL ci Cn T N ty) (hn : As.length = n) (hst : st = As.reverse ++ .ref b :: rest) (hW : (rest.map fun v => v.category).sum ≤ 8) (hR : rm.frames + 1 ≤ R.frames ∧ 8 + (maxL + 11) + rm.locals ≤ R.locals) (hf : cells + rm.cells ≤ R.cells ∧ slots + rm.slots ≤ R.slots) (hdg : decode cc pc = .ok (.invokevirtual index, 3))
    (kk : ∀ (r : Int32) (f1 : zM) (H1 : Heap) (locs1 : List Loc), post r f1 → zH D A f1 H1 → va_S A H0 H1 locs1 → W p l e R s m args below meth c H1 locs1 (cells + rm.cells) (slots + rm.slots) Q (F0 m (pc + 3) ls (.int r :: rest))) : W p l e R s m args below meth c H locs cells slots Q (F0 m pc ls st) := by
  obtain ⟨y1, y2, y3, y4, y5, y6, y7, y8⟩ := hy
  subst y5
  have hG : GoodIn zTbl [Cond.code y bytes maxL ret] := fun w h => by
    rw [List.mem_singleton.mp h]
    exact ⟨y1, Or.inl rfl⟩
  have hF := z_in hz hS hA
  have hc9 := C.2.2.2.2.1
  refine va_calli (va_runV (As := As) (rest := rest) ⟨C.1, C.2.1, C.2.2.1, C.2.2.2.1, hc9⟩ (hM H.size) ⟨callB_of n hc9 hG rfl rfl rfl (hc9 _ y4) (hc9 _ hlink) ⟨y6, y7, y8⟩ hR, hc9 _ y2, hc9 _ y3⟩ ⟨zPc_blind, va_recv C.2.2.2.2.2.1 (z_one hz hb) (ci := ci) (q0 := 0) hcl.1 rfl, zPc_at hz C.2.2.2.2.2.1 C.2.2.2.2.2.2.1⟩ rfl hn hl.1 hst (lv_room hW) hdg hf) hS (fun q _ h => hF q h) hF (fun r u t H1 locs1 ht hvm hp hB hz1 hk1 hS1 => ?_)
  refine kk r u H1 locs1 hp ?_ hS1
  have hB2 : zH D (zA f H.size) u H1 := by rw [← ht]; exact hB
  exact z_mono hB2 hF
theorem z_callVl {y : MethodName} {bytes : ByteArray} {maxL n index : Nat} {ret : Option FieldType} {rm : Room} {b : Addr} {As st : List Value} {Cn : String} {post : Int64 → zM → Prop} {ci N : Nat} {T : u_T} {ty : Nat → FieldType} {fs : List Value} {lv : List (Nat × Value)} (C : zC D cy p s m args meth c own cc nL) (hz : zH D A f H) (hS : va_S A H0 H locs) (hA : ∀ q, H0.size ≤ q → A q) (hl : lv_has ls nL lv) (hM : zCl l D cy y bytes maxL ret rm (.ref b :: As) f post) (hy : zY y bytes maxL ret n Cn) (hlink : Cond.methodLink own index y ∈ zTbl) (hb : f b = some (.inr (ci, fs))) (hcl : zL ci Cn T N ty) (hn : As.length = n) (hst : st = As.reverse ++ .ref b :: rest) (hW : (rest.map fun v => v.category).sum ≤ 8) (hR : rm.frames + 1 ≤ R.frames ∧ 8 + (maxL + 11) + rm.locals ≤ R.locals) (hf : cells + rm.cells ≤ R.cells ∧ slots + rm.slots ≤ R.slots) (hdg : decode cc pc = .ok (.invokevirtual index, 3))
    (kk : ∀ (r : Int64) (f1 : zM) (H1 : Heap) (locs1 : List Loc), post r f1 → zH D A f1 H1 → va_S A H0 H1 locs1 → W p l e R s m args below meth c H1 locs1 (cells + rm.cells) (slots + rm.slots) Q (F0 m (pc + 3) ls (.long r :: rest))) : W p l e R s m args below meth c H locs cells slots Q (F0 m pc ls st) := by
  obtain ⟨y1, y2, y3, y4, y5, y6, y7, y8⟩ := hy
  subst y5
  have hG : GoodIn zTbl [Cond.code y bytes maxL ret] := fun w h => by
    rw [List.mem_singleton.mp h]
    exact ⟨y1, Or.inl rfl⟩
  have hF := z_in hz hS hA
  have hc9 := C.2.2.2.2.1
  refine va_calll (va_runV (As := As) (rest := rest) ⟨C.1, C.2.1, C.2.2.1, C.2.2.2.1, hc9⟩ (hM H.size) ⟨callB_of n hc9 hG rfl rfl rfl (hc9 _ y4) (hc9 _ hlink) ⟨y6, y7, y8⟩ hR, hc9 _ y2, hc9 _ y3⟩ ⟨zPc_blind, va_recv C.2.2.2.2.2.1 (z_one hz hb) (ci := ci) (q0 := 0) hcl.1 rfl, zPc_at hz C.2.2.2.2.2.1 C.2.2.2.2.2.2.1⟩ rfl hn hl.1 hst (lv_room hW) hdg hf) hS (fun q _ h => hF q h) hF (fun r u t H1 locs1 ht hvm hp hB hz1 hk1 hS1 => ?_)
  refine kk r u H1 locs1 hp ?_ hS1
  have hB2 : zH D (zA f H.size) u H1 := by rw [← ht]; exact hB
  exact z_mono hB2 hF
theorem z_callVv {y : MethodName} {bytes : ByteArray} {maxL n index : Nat} {ret : Option FieldType} {rm : Room} {b : Addr} {As st : List Value} {Cn : String} {post : zM → Prop} {ci N : Nat} {T : u_T} {ty : Nat → FieldType} {fs : List Value} {lv : List (Nat × Value)} (C : zC D cy p s m args meth c own cc nL) (hz : zH D A f H) (hS : va_S A H0 H locs) (hA : ∀ q, H0.size ≤ q → A q) (hl : lv_has ls nL lv) (hM : zCv l D cy y bytes maxL ret rm (.ref b :: As) f post) (hy : zY y bytes maxL ret n Cn) (hlink : Cond.methodLink own index y ∈ zTbl) (hb : f b = some (.inr (ci, fs))) (hcl : zL ci Cn T N ty) (hn : As.length = n) (hst : st = As.reverse ++ .ref b :: rest) (hW : (rest.map fun v => v.category).sum ≤ 8) (hR : rm.frames + 1 ≤ R.frames ∧ 8 + (maxL + 11) + rm.locals ≤ R.locals) (hf : cells + rm.cells ≤ R.cells ∧ slots + rm.slots ≤ R.slots) (hdg : decode cc pc = .ok (.invokevirtual index, 3))
    (kk : ∀ (f1 : zM) (H1 : Heap) (locs1 : List Loc), post f1 → zH D A f1 H1 → va_S A H0 H1 locs1 → W p l e R s m args below meth c H1 locs1 (cells + rm.cells) (slots + rm.slots) Q (F0 m (pc + 3) ls rest)) : W p l e R s m args below meth c H locs cells slots Q (F0 m pc ls st) := by
  obtain ⟨y1, y2, y3, y4, y5, y6, y7, y8⟩ := hy
  subst y5
  have hG : GoodIn zTbl [Cond.code y bytes maxL ret] := fun w h => by
    rw [List.mem_singleton.mp h]
    exact ⟨y1, Or.inl rfl⟩
  have hF := z_in hz hS hA
  have hc9 := C.2.2.2.2.1
  refine va_callv (va_runV (As := As) (rest := rest) ⟨C.1, C.2.1, C.2.2.1, C.2.2.2.1, hc9⟩ (hM H.size) ⟨callB_of n hc9 hG rfl rfl rfl (hc9 _ y4) (hc9 _ hlink) ⟨y6, y7, y8⟩ hR, hc9 _ y2, hc9 _ y3⟩ ⟨zPc_blind, va_recv C.2.2.2.2.2.1 (z_one hz hb) (ci := ci) (q0 := 0) hcl.1 rfl, zPc_at hz C.2.2.2.2.2.1 C.2.2.2.2.2.2.1⟩ rfl hn hl.1 hst (lv_room hW) hdg hf) hS (fun q _ h => hF q h) hF (fun u t H1 locs1 ht hvm hp hB hz1 hk1 hS1 => ?_)
  refine kk u H1 locs1 hp ?_ hS1
  have hB2 : zH D (zA f H.size) u H1 := by rw [← ht]; exact hB
  exact z_mono hB2 hF
theorem z_callVq {y : MethodName} {bytes : ByteArray} {maxL n index : Nat} {ret : Option FieldType} {rm : Room} {b : Addr} {As st : List Value} {Cn : String} {post : Option Nat → zM → Prop} {ci N : Nat} {T : u_T} {ty : Nat → FieldType} {fs : List Value} {lv : List (Nat × Value)} (C : zC D cy p s m args meth c own cc nL) (hz : zH D A f H) (hS : va_S A H0 H locs) (hA : ∀ q, H0.size ≤ q → A q) (hl : lv_has ls nL lv) (hM : zCq l D cy y bytes maxL ret rm (.ref b :: As) f post) (hy : zY y bytes maxL ret n Cn) (hlink : Cond.methodLink own index y ∈ zTbl) (hb : f b = some (.inr (ci, fs))) (hcl : zL ci Cn T N ty) (hn : As.length = n) (hst : st = As.reverse ++ .ref b :: rest) (hW : (rest.map fun v => v.category).sum ≤ 8) (hR : rm.frames + 1 ≤ R.frames ∧ 8 + (maxL + 11) + rm.locals ≤ R.locals) (hf : cells + rm.cells ≤ R.cells ∧ slots + rm.slots ≤ R.slots) (hdg : decode cc pc = .ok (.invokevirtual index, 3))
    (kk : ∀ (r : Option Nat) (f1 : zM) (H1 : Heap) (locs1 : List Loc), post r f1 → zH D A f1 H1 → va_S A H0 H1 locs1 → W p l e R s m args below meth c H1 locs1 (cells + rm.cells) (slots + rm.slots) Q (F0 m (pc + 3) ls (va_rf r :: rest))) : W p l e R s m args below meth c H locs cells slots Q (F0 m pc ls st) := by
  obtain ⟨y1, y2, y3, y4, y5, y6, y7, y8⟩ := hy
  subst y5
  have hG : GoodIn zTbl [Cond.code y bytes maxL ret] := fun w h => by
    rw [List.mem_singleton.mp h]
    exact ⟨y1, Or.inl rfl⟩
  have hF := z_in hz hS hA
  have hc9 := C.2.2.2.2.1
  refine va_callq (va_runV (As := As) (rest := rest) ⟨C.1, C.2.1, C.2.2.1, C.2.2.2.1, hc9⟩ (hM H.size) ⟨callB_of n hc9 hG rfl rfl rfl (hc9 _ y4) (hc9 _ hlink) ⟨y6, y7, y8⟩ hR, hc9 _ y2, hc9 _ y3⟩ ⟨zPc_blind, va_recv C.2.2.2.2.2.1 (z_one hz hb) (ci := ci) (q0 := 0) hcl.1 rfl, zPc_at hz C.2.2.2.2.2.1 C.2.2.2.2.2.2.1⟩ rfl hn hl.1 hst (lv_room hW) hdg hf) hS (fun q _ h => hF q h) hF (fun r u t H1 locs1 ht hvm hp hB hz1 hk1 hS1 => ?_)
  refine kk r u H1 locs1 hp ?_ hS1
  have hB2 : zH D (zA f H.size) u H1 := by rw [← ht]; exact hB
  exact z_mono hB2 hF
theorem z_callSi {y : MethodName} {bytes : ByteArray} {maxL n index : Nat} {ret : Option FieldType} {rm : Room} {As st : List Value} {Cn : String} {post : Int32 → zM → Prop} {lv : List (Nat × Value)} (C : zC D cy p s m args meth c own cc nL) (hz : zH D A f H) (hS : va_S A H0 H locs) (hA : ∀ q, H0.size ≤ q → A q) (hl : lv_has ls nL lv) (hM : zCi l D cy y bytes maxL ret rm As f post) (hy : zYs y bytes maxL ret n Cn) (hlink : Cond.methodLink own index y ∈ zTbl) (hn : As.length = n) (hst : st = As.reverse ++ rest) (hW : (rest.map fun v => v.category).sum ≤ 8) (hR : rm.frames + 1 ≤ R.frames ∧ 8 + (maxL + 11) + rm.locals ≤ R.locals) (hf : cells + rm.cells ≤ R.cells ∧ slots + rm.slots ≤ R.slots) (hdg : decode cc pc = .ok (.invokestatic index, 3))
    (kk : ∀ (r : Int32) (f1 : zM) (H1 : Heap) (locs1 : List Loc), post r f1 → zH D A f1 H1 → va_S A H0 H1 locs1 → W p l e R s m args below meth c H1 locs1 (cells + rm.cells) (slots + rm.slots) Q (F0 m (pc + 3) ls (.int r :: rest))) : W p l e R s m args below meth c H locs cells slots Q (F0 m pc ls st) := by
  obtain ⟨y1, y2, y4, y5, y6, y7, y8⟩ := hy
  subst y5
  have hG : GoodIn zTbl [Cond.code y bytes maxL ret] := fun w h => by
    rw [List.mem_singleton.mp h]
    exact ⟨y1, Or.inl rfl⟩
  have hF := z_in hz hS hA
  have hc9 := C.2.2.2.2.1
  refine va_calli (va_runS (As := As) (rest := rest) ⟨C.1, C.2.1, C.2.2.1, C.2.2.2.1, hc9⟩ (hM H.size) ⟨callB_of n hc9 hG rfl rfl rfl (hc9 _ y4) (hc9 _ hlink) ⟨y6, y7, y8⟩ hR, hc9 _ y2⟩ ⟨zPc_blind, zPc_at hz C.2.2.2.2.2.1 C.2.2.2.2.2.2.1⟩ rfl hn hl.1 hst (lv_room hW) hdg hf) hS (fun q _ h => hF q h) hF (fun r u t H1 locs1 ht hvm hp hB hz1 hk1 hS1 => ?_)
  refine kk r u H1 locs1 hp ?_ hS1
  have hB2 : zH D (zA f H.size) u H1 := by rw [← ht]; exact hB
  exact z_mono hB2 hF
theorem z_callSl {y : MethodName} {bytes : ByteArray} {maxL n index : Nat} {ret : Option FieldType} {rm : Room} {As st : List Value} {Cn : String} {post : Int64 → zM → Prop} {lv : List (Nat × Value)} (C : zC D cy p s m args meth c own cc nL) (hz : zH D A f H) (hS : va_S A H0 H locs) (hA : ∀ q, H0.size ≤ q → A q) (hl : lv_has ls nL lv) (hM : zCl l D cy y bytes maxL ret rm As f post) (hy : zYs y bytes maxL ret n Cn) (hlink : Cond.methodLink own index y ∈ zTbl) (hn : As.length = n) (hst : st = As.reverse ++ rest) (hW : (rest.map fun v => v.category).sum ≤ 8) (hR : rm.frames + 1 ≤ R.frames ∧ 8 + (maxL + 11) + rm.locals ≤ R.locals) (hf : cells + rm.cells ≤ R.cells ∧ slots + rm.slots ≤ R.slots) (hdg : decode cc pc = .ok (.invokestatic index, 3))
    (kk : ∀ (r : Int64) (f1 : zM) (H1 : Heap) (locs1 : List Loc), post r f1 → zH D A f1 H1 → va_S A H0 H1 locs1 → W p l e R s m args below meth c H1 locs1 (cells + rm.cells) (slots + rm.slots) Q (F0 m (pc + 3) ls (.long r :: rest))) : W p l e R s m args below meth c H locs cells slots Q (F0 m pc ls st) := by
  obtain ⟨y1, y2, y4, y5, y6, y7, y8⟩ := hy
  subst y5
  have hG : GoodIn zTbl [Cond.code y bytes maxL ret] := fun w h => by
    rw [List.mem_singleton.mp h]
    exact ⟨y1, Or.inl rfl⟩
  have hF := z_in hz hS hA
  have hc9 := C.2.2.2.2.1
  refine va_calll (va_runS (As := As) (rest := rest) ⟨C.1, C.2.1, C.2.2.1, C.2.2.2.1, hc9⟩ (hM H.size) ⟨callB_of n hc9 hG rfl rfl rfl (hc9 _ y4) (hc9 _ hlink) ⟨y6, y7, y8⟩ hR, hc9 _ y2⟩ ⟨zPc_blind, zPc_at hz C.2.2.2.2.2.1 C.2.2.2.2.2.2.1⟩ rfl hn hl.1 hst (lv_room hW) hdg hf) hS (fun q _ h => hF q h) hF (fun r u t H1 locs1 ht hvm hp hB hz1 hk1 hS1 => ?_)
  refine kk r u H1 locs1 hp ?_ hS1
  have hB2 : zH D (zA f H.size) u H1 := by rw [← ht]; exact hB
  exact z_mono hB2 hF
theorem z_callSv {y : MethodName} {bytes : ByteArray} {maxL n index : Nat} {ret : Option FieldType} {rm : Room} {As st : List Value} {Cn : String} {post : zM → Prop} {lv : List (Nat × Value)} (C : zC D cy p s m args meth c own cc nL) (hz : zH D A f H) (hS : va_S A H0 H locs) (hA : ∀ q, H0.size ≤ q → A q) (hl : lv_has ls nL lv) (hM : zCv l D cy y bytes maxL ret rm As f post) (hy : zYs y bytes maxL ret n Cn) (hlink : Cond.methodLink own index y ∈ zTbl) (hn : As.length = n) (hst : st = As.reverse ++ rest) (hW : (rest.map fun v => v.category).sum ≤ 8) (hR : rm.frames + 1 ≤ R.frames ∧ 8 + (maxL + 11) + rm.locals ≤ R.locals) (hf : cells + rm.cells ≤ R.cells ∧ slots + rm.slots ≤ R.slots) (hdg : decode cc pc = .ok (.invokestatic index, 3))
    (kk : ∀ (f1 : zM) (H1 : Heap) (locs1 : List Loc), post f1 → zH D A f1 H1 → va_S A H0 H1 locs1 → W p l e R s m args below meth c H1 locs1 (cells + rm.cells) (slots + rm.slots) Q (F0 m (pc + 3) ls rest)) : W p l e R s m args below meth c H locs cells slots Q (F0 m pc ls st) := by
  obtain ⟨y1, y2, y4, y5, y6, y7, y8⟩ := hy
  subst y5
  have hG : GoodIn zTbl [Cond.code y bytes maxL ret] := fun w h => by
    rw [List.mem_singleton.mp h]
    exact ⟨y1, Or.inl rfl⟩
  have hF := z_in hz hS hA
  have hc9 := C.2.2.2.2.1
  refine va_callv (va_runS (As := As) (rest := rest) ⟨C.1, C.2.1, C.2.2.1, C.2.2.2.1, hc9⟩ (hM H.size) ⟨callB_of n hc9 hG rfl rfl rfl (hc9 _ y4) (hc9 _ hlink) ⟨y6, y7, y8⟩ hR, hc9 _ y2⟩ ⟨zPc_blind, zPc_at hz C.2.2.2.2.2.1 C.2.2.2.2.2.2.1⟩ rfl hn hl.1 hst (lv_room hW) hdg hf) hS (fun q _ h => hF q h) hF (fun u t H1 locs1 ht hvm hp hB hz1 hk1 hS1 => ?_)
  refine kk u H1 locs1 hp ?_ hS1
  have hB2 : zH D (zA f H.size) u H1 := by rw [← ht]; exact hB
  exact z_mono hB2 hF
theorem z_callSq {y : MethodName} {bytes : ByteArray} {maxL n index : Nat} {ret : Option FieldType} {rm : Room} {As st : List Value} {Cn : String} {post : Option Nat → zM → Prop} {lv : List (Nat × Value)} (C : zC D cy p s m args meth c own cc nL) (hz : zH D A f H) (hS : va_S A H0 H locs) (hA : ∀ q, H0.size ≤ q → A q) (hl : lv_has ls nL lv) (hM : zCq l D cy y bytes maxL ret rm As f post) (hy : zYs y bytes maxL ret n Cn) (hlink : Cond.methodLink own index y ∈ zTbl) (hn : As.length = n) (hst : st = As.reverse ++ rest) (hW : (rest.map fun v => v.category).sum ≤ 8) (hR : rm.frames + 1 ≤ R.frames ∧ 8 + (maxL + 11) + rm.locals ≤ R.locals) (hf : cells + rm.cells ≤ R.cells ∧ slots + rm.slots ≤ R.slots) (hdg : decode cc pc = .ok (.invokestatic index, 3))
    (kk : ∀ (r : Option Nat) (f1 : zM) (H1 : Heap) (locs1 : List Loc), post r f1 → zH D A f1 H1 → va_S A H0 H1 locs1 → W p l e R s m args below meth c H1 locs1 (cells + rm.cells) (slots + rm.slots) Q (F0 m (pc + 3) ls (va_rf r :: rest))) : W p l e R s m args below meth c H locs cells slots Q (F0 m pc ls st) := by
  obtain ⟨y1, y2, y4, y5, y6, y7, y8⟩ := hy
  subst y5
  have hG : GoodIn zTbl [Cond.code y bytes maxL ret] := fun w h => by
    rw [List.mem_singleton.mp h]
    exact ⟨y1, Or.inl rfl⟩
  have hF := z_in hz hS hA
  have hc9 := C.2.2.2.2.1
  refine va_callq (va_runS (As := As) (rest := rest) ⟨C.1, C.2.1, C.2.2.1, C.2.2.2.1, hc9⟩ (hM H.size) ⟨callB_of n hc9 hG rfl rfl rfl (hc9 _ y4) (hc9 _ hlink) ⟨y6, y7, y8⟩ hR, hc9 _ y2⟩ ⟨zPc_blind, zPc_at hz C.2.2.2.2.2.1 C.2.2.2.2.2.2.1⟩ rfl hn hl.1 hst (lv_room hW) hdg hf) hS (fun q _ h => hF q h) hF (fun r u t H1 locs1 ht hvm hp hB hz1 hk1 hS1 => ?_)
  refine kk r u H1 locs1 hp ?_ hS1
  have hB2 : zH D (zA f H.size) u H1 := by rw [← ht]; exact hB
  exact z_mono hB2 hF
theorem z_callIv {y : MethodName} {bytes : ByteArray} {maxL n index : Nat} {ret : Option FieldType} {rm : Room} {b : Addr} {As st : List Value} {Cn : String} {post : zM → Prop} {lv : List (Nat × Value)} (C : zC D cy p s m args meth c own cc nL) (hz : zH D A f H) (hS : va_S A H0 H locs) (hA : ∀ q, H0.size ≤ q → A q) (hl : lv_has ls nL lv) (hM : zCv l D cy y bytes maxL none rm (.ref b :: As) f post) (hy : zYi y bytes maxL n Cn) (hlink : Cond.methodLink own index y ∈ zTbl) (hn : As.length = n) (hst : st = As.reverse ++ .ref b :: rest) (hW : (rest.map fun v => v.category).sum ≤ 8) (hR : rm.frames + 1 ≤ R.frames ∧ 8 + (maxL + 11) + rm.locals ≤ R.locals) (hf : cells + rm.cells ≤ R.cells ∧ slots + rm.slots ≤ R.slots) (hdg : decode cc pc = .ok (.invokespecial index, 3))
    (kk : ∀ (f1 : zM) (H1 : Heap) (locs1 : List Loc), post f1 → zH D A f1 H1 → va_S A H0 H1 locs1 → W p l e R s m args below meth c H1 locs1 (cells + rm.cells) (slots + rm.slots) Q (F0 m (pc + 3) ls rest)) : W p l e R s m args below meth c H locs cells slots Q (F0 m pc ls st) := by
  obtain ⟨y1, y2, y4, y9, y5, y6, y7, y8⟩ := hy
  subst y5
  have hG : GoodIn zTbl [Cond.code y bytes maxL none] := fun w h => by
    rw [List.mem_singleton.mp h]
    exact ⟨y1, Or.inl rfl⟩
  have hF := z_in hz hS hA
  have hc9 := C.2.2.2.2.1
  refine va_callv (va_runI (As := As) (rest := rest) ⟨C.1, C.2.1, C.2.2.1, C.2.2.2.1, hc9⟩ (hM H.size) ⟨callB_of n hc9 hG rfl rfl rfl (hc9 _ y4) (hc9 _ hlink) ⟨y6, y7, y8⟩ hR, y9, hc9 _ y2⟩ ⟨zPc_blind, zPc_at hz C.2.2.2.2.2.1 C.2.2.2.2.2.2.1⟩ rfl hn hl.1 hst (lv_room hW) hdg hf) hS (fun q _ h => hF q h) hF (fun u t H1 locs1 ht hvm hp hB hz1 hk1 hS1 => ?_)
  refine kk u H1 locs1 hp ?_ hS1
  have hB2 : zH D (zA f H.size) u H1 := by rw [← ht]; exact hB
  exact z_mono hB2 hF
theorem z_callINv {y : MethodName} {bytes : ByteArray} {maxL n index : Nat} {ret : Option FieldType} {rm : Room} {b : Addr} {As st : List Value} {Cn : String} {post : zM → Prop} {host : String} {lv : List (Nat × Value)} (C : zC D cy p s m args meth c own cc nL) (hz : zH D A f H) (hS : va_S A H0 H locs) (hA : ∀ q, H0.size ≤ q → A q) (hl : lv_has ls nL lv) (hM : zCv l D cy y bytes maxL none rm (.ref b :: As) f post) (hy : zYi y bytes maxL n Cn) (hlink : Cond.methodLinkNest own index y host ∈ zTbl) (hn : As.length = n) (hst : st = As.reverse ++ .ref b :: rest) (hW : (rest.map fun v => v.category).sum ≤ 8) (hR : rm.frames + 1 ≤ R.frames ∧ 8 + (maxL + 11) + rm.locals ≤ R.locals) (hf : cells + rm.cells ≤ R.cells ∧ slots + rm.slots ≤ R.slots) (hdg : decode cc pc = .ok (.invokespecial index, 3))
    (kk : ∀ (f1 : zM) (H1 : Heap) (locs1 : List Loc), post f1 → zH D A f1 H1 → va_S A H0 H1 locs1 → W p l e R s m args below meth c H1 locs1 (cells + rm.cells) (slots + rm.slots) Q (F0 m (pc + 3) ls rest)) : W p l e R s m args below meth c H locs cells slots Q (F0 m pc ls st) := by
  obtain ⟨y1, y2, y4, y9, y5, y6, y7, y8⟩ := hy
  subst y5
  have hG : GoodIn zTbl [Cond.code y bytes maxL none] := fun w h => by
    rw [List.mem_singleton.mp h]
    exact ⟨y1, Or.inl rfl⟩
  have hF := z_in hz hS hA
  have hc9 := C.2.2.2.2.1
  refine va_callv (va_runIN (As := As) (rest := rest) ⟨C.1, C.2.1, C.2.2.1, C.2.2.2.1, hc9⟩ (hM H.size) ⟨va_cnB n hc9 hG rfl rfl rfl (va_Nw.of rfl (hc9 _ hlink)) (hc9 _ y4) ⟨y6, y7, y8⟩ hR, y9, hc9 _ y2⟩ ⟨zPc_blind, zPc_at hz C.2.2.2.2.2.1 C.2.2.2.2.2.2.1⟩ rfl hn hl.1 hst (lv_room hW) hdg hf) hS (fun q _ h => hF q h) hF (fun u t H1 locs1 ht hvm hp hB hz1 hk1 hS1 => ?_)
  refine kk u H1 locs1 hp ?_ hS1
  have hB2 : zH D (zA f H.size) u H1 := by rw [← ht]; exact hB
  exact z_mono hB2 hF
end ZW
