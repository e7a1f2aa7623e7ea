/-- what a call leaves alone: another map, apart from the one that it was given -/
theorem z_frame {D : va_G} {A : Nat → Prop} {f g f1 : zM} {H H1 : Heap} (hg : zH D A g H) (hd : ∀ a e, g a = some e → f a = none) (hB : zH D (zA f H.size) f1 H1) (hk : ∀ q, q < H.size → ¬ zA f H.size q → H1[q]? = H[q]?) : zH D A g H1 ∧ ∀ a e, g a = some e → f1 a = none := by
  have nz : ∀ a e, g a = some e → a < H.size ∧ ¬ zA f H.size a := fun a e h => ⟨(hg a e h).1.lt, fun q => by
    have hlt : a < H.size := (hg a e h).1.lt
    rcases q with ⟨e2, h2⟩ | h2
    · rw [hd a e h] at h2
      cases h2
    · omega⟩
  refine ⟨fun a e h => ⟨(hg a e h).1.kept (hk a (nz a e h).1 (nz a e h).2), (hg a e h).2⟩, fun a e h => ?_⟩
  cases h1 : f1 a with
  | none => rfl
  | some e1 => exact absurd (hB a e1 h1).2 (nz a e h).2
theorem z_dsym {f g : zM} (h : ∀ a e, g a = some e → f a = none) : ∀ a e, f a = some e → g a = none := fun a e q => by
  cases h1 : g a with
  | none => rfl
  | some e1 =>
    rw [h a e1 h1] at q
    cases q
theorem z_lt1 {x : Int32} {a b : Nat} (ha : a < 2 ^ 30) (hb : b < 2 ^ 30) (hx : x = nI a - nI b) (j : Nat) (hj : j < 2 ^ 30) (h : ¬ x < nI j) : j + b ≤ a := by
  subst hx
  rw [Int32.lt_iff_toInt_lt, pk_sub_toInt ha hb, nI_toInt (by omega)] at h
  omega
section ZW
variable {p : Program} {l : Launch} {e : Env} {R : Room} {s : State} {m : MethodId} {args : Array Value} {below : List Frame} {meth : Method} {c : Code} {H : Heap} {locs : List Loc} {cells slots : Nat} {Q : State → Prop}
variable {cc : ByteArray} {pc nL : Nat} {ls : Array Slot} {rest : List Value} {D : va_G} {cy : Nat → ClassId} {A : Nat → Prop} {f : zM} {a : Nat} {H0 : Heap} {own : String}
theorem z_callVi2 {y : MethodName} {bytes : ByteArray} {maxL n index : Nat} {ret : Option FieldType} {rm : Room} {b : Addr} {As st : List Value} {Cn : String} {post : Int32 → zM → Prop} {ci N : Nat} {T : u_T} {ty : Nat → FieldType} {fs : List Value} {lv : List (Nat × Value)} (C : zC D cy p s m args meth c own cc nL) (hz : zH D A f H) (hS : va_S A H0 H locs) (hA : ∀ q, H0.size ≤ q → A q) (hl : lv_has ls nL lv) (hM : zCi l D cy y bytes maxL ret rm (.ref b :: As) f post) (hy : zY y bytes maxL ret n Cn) (hlink : Cond.methodLink own index y ∈ zTbl) (hb : f b = some (.inr (ci, fs))) (hcl : zL ci Cn T N ty) (hn : As.length = n) (hst : st = As.reverse ++ .ref b :: rest) (hW : (rest.map fun v => v.category).sum ≤ 8) (hR : rm.frames + 1 ≤ R.frames ∧ 8 + (maxL + 11) + rm.locals ≤ R.locals) (hf : cells + rm.cells ≤ R.cells ∧ slots + rm.slots ≤ R.slots) (hdg : decode cc pc = .ok (.invokevirtual index, 3))
    (kk : ∀ (r : Int32) (f1 : zM) (H1 : Heap) (locs1 : List Loc), post r f1 → zH D A f1 H1 → va_S A H0 H1 locs1 → (∀ g : zM, zH D A g H → (∀ a e, g a = some e → f a = none) → zH D A g H1 ∧ ∀ a e, g a = some e → f1 a = none) → W p l e R s m args below meth c H1 locs1 (cells + rm.cells) (slots + rm.slots) Q (F0 m (pc + 3) ls (.int r :: rest))) : W p l e R s m args below meth c H locs cells slots Q (F0 m pc ls st) := by
  obtain ⟨y1, y2, y3, y4, y5, y6, y7, y8⟩ := hy
  subst y5
  have hG : GoodIn zTbl [Cond.code y bytes maxL ret] := fun w h => by
    rw [List.mem_singleton.mp h]
    exact ⟨y1, Or.inl rfl⟩
  have hF := z_in hz hS hA
  have hc9 := C.2.2.2.2.1
  refine va_calli (va_runV (As := As) (rest := rest) ⟨C.1, C.2.1, C.2.2.1, C.2.2.2.1, hc9⟩ (hM H.size) ⟨callB_of n hc9 hG rfl rfl rfl (hc9 _ y4) (hc9 _ hlink) ⟨y6, y7, y8⟩ hR, hc9 _ y2, hc9 _ y3⟩ ⟨zPc_blind, va_recv C.2.2.2.2.2.1 (z_one hz hb) (ci := ci) (q0 := 0) hcl.1 rfl, zPc_at hz C.2.2.2.2.2.1 C.2.2.2.2.2.2.1⟩ rfl hn hl.1 hst (lv_room hW) hdg hf) hS (fun q _ h => hF q h) hF (fun r u t H1 locs1 ht hvm hp hB hz1 hk1 hS1 => ?_)
  have hB2 : zH D (zA f H.size) u H1 := by rw [← ht]; exact hB
  exact kk r u H1 locs1 hp (z_mono hB2 hF) hS1 (fun g hg hd => z_frame hg hd hB2 hk1)
theorem z_callVl2 {y : MethodName} {bytes : ByteArray} {maxL n index : Nat} {ret : Option FieldType} {rm : Room} {b : Addr} {As st : List Value} {Cn : String} {post : Int64 → zM → Prop} {ci N : Nat} {T : u_T} {ty : Nat → FieldType} {fs : List Value} {lv : List (Nat × Value)} (C : zC D cy p s m args meth c own cc nL) (hz : zH D A f H) (hS : va_S A H0 H locs) (hA : ∀ q, H0.size ≤ q → A q) (hl : lv_has ls nL lv) (hM : zCl l D cy y bytes maxL ret rm (.ref b :: As) f post) (hy : zY y bytes maxL ret n Cn) (hlink : Cond.methodLink own index y ∈ zTbl) (hb : f b = some (.inr (ci, fs))) (hcl : zL ci Cn T N ty) (hn : As.length = n) (hst : st = As.reverse ++ .ref b :: rest) (hW : (rest.map fun v => v.category).sum ≤ 8) (hR : rm.frames + 1 ≤ R.frames ∧ 8 + (maxL + 11) + rm.locals ≤ R.locals) (hf : cells + rm.cells ≤ R.cells ∧ slots + rm.slots ≤ R.slots) (hdg : decode cc pc = .ok (.invokevirtual index, 3))
    (kk : ∀ (r : Int64) (f1 : zM) (H1 : Heap) (locs1 : List Loc), post r f1 → zH D A f1 H1 → va_S A H0 H1 locs1 → (∀ g : zM, zH D A g H → (∀ a e, g a = some e → f a = none) → zH D A g H1 ∧ ∀ a e, g a = some e → f1 a = none) → W p l e R s m args below meth c H1 locs1 (cells + rm.cells) (slots + rm.slots) Q (F0 m (pc + 3) ls (.long r :: rest))) : W p l e R s m args below meth c H locs cells slots Q (F0 m pc ls st) := by
  obtain ⟨y1, y2, y3, y4, y5, y6, y7, y8⟩ := hy
  subst y5
  have hG : GoodIn zTbl [Cond.code y bytes maxL ret] := fun w h => by
    rw [List.mem_singleton.mp h]
    exact ⟨y1, Or.inl rfl⟩
  have hF := z_in hz hS hA
  have hc9 := C.2.2.2.2.1
  refine va_calll (va_runV (As := As) (rest := rest) ⟨C.1, C.2.1, C.2.2.1, C.2.2.2.1, hc9⟩ (hM H.size) ⟨callB_of n hc9 hG rfl rfl rfl (hc9 _ y4) (hc9 _ hlink) ⟨y6, y7, y8⟩ hR, hc9 _ y2, hc9 _ y3⟩ ⟨zPc_blind, va_recv C.2.2.2.2.2.1 (z_one hz hb) (ci := ci) (q0 := 0) hcl.1 rfl, zPc_at hz C.2.2.2.2.2.1 C.2.2.2.2.2.2.1⟩ rfl hn hl.1 hst (lv_room hW) hdg hf) hS (fun q _ h => hF q h) hF (fun r u t H1 locs1 ht hvm hp hB hz1 hk1 hS1 => ?_)
  have hB2 : zH D (zA f H.size) u H1 := by rw [← ht]; exact hB
  exact kk r u H1 locs1 hp (z_mono hB2 hF) hS1 (fun g hg hd => z_frame hg hd hB2 hk1)
theorem z_callIv2 {y : MethodName} {bytes : ByteArray} {maxL n index : Nat} {ret : Option FieldType} {rm : Room} {b : Addr} {As st : List Value} {Cn : String} {post : zM → Prop} {lv : List (Nat × Value)} (C : zC D cy p s m args meth c own cc nL) (hz : zH D A f H) (hS : va_S A H0 H locs) (hA : ∀ q, H0.size ≤ q → A q) (hl : lv_has ls nL lv) (hM : zCv l D cy y bytes maxL none rm (.ref b :: As) f post) (hy : zYi y bytes maxL n Cn) (hlink : Cond.methodLink own index y ∈ zTbl) (hn : As.length = n) (hst : st = As.reverse ++ .ref b :: rest) (hW : (rest.map fun v => v.category).sum ≤ 8) (hR : rm.frames + 1 ≤ R.frames ∧ 8 + (maxL + 11) + rm.locals ≤ R.locals) (hf : cells + rm.cells ≤ R.cells ∧ slots + rm.slots ≤ R.slots) (hdg : decode cc pc = .ok (.invokespecial index, 3))
    (kk : ∀ (f1 : zM) (H1 : Heap) (locs1 : List Loc), post f1 → zH D A f1 H1 → va_S A H0 H1 locs1 → (∀ g : zM, zH D A g H → (∀ a e, g a = some e → f a = none) → zH D A g H1 ∧ ∀ a e, g a = some e → f1 a = none) → W p l e R s m args below meth c H1 locs1 (cells + rm.cells) (slots + rm.slots) Q (F0 m (pc + 3) ls rest)) : W p l e R s m args below meth c H locs cells slots Q (F0 m pc ls st) := by
  obtain ⟨y1, y2, y4, y9, y5, y6, y7, y8⟩ := hy
  subst y5
  have hG : GoodIn zTbl [Cond.code y bytes maxL none] := fun w h => by
    rw [List.mem_singleton.mp h]
    exact ⟨y1, Or.inl rfl⟩
  have hF := z_in hz hS hA
  have hc9 := C.2.2.2.2.1
  refine va_callv (va_runI (As := As) (rest := rest) ⟨C.1, C.2.1, C.2.2.1, C.2.2.2.1, hc9⟩ (hM H.size) ⟨callB_of n hc9 hG rfl rfl rfl (hc9 _ y4) (hc9 _ hlink) ⟨y6, y7, y8⟩ hR, y9, hc9 _ y2⟩ ⟨zPc_blind, zPc_at hz C.2.2.2.2.2.1 C.2.2.2.2.2.2.1⟩ rfl hn hl.1 hst (lv_room hW) hdg hf) hS (fun q _ h => hF q h) hF (fun u t H1 locs1 ht hvm hp hB hz1 hk1 hS1 => ?_)
  have hB2 : zH D (zA f H.size) u H1 := by rw [← ht]; exact hB
  exact kk u H1 locs1 hp (z_mono hB2 hF) hS1 (fun g hg hd => z_frame hg hd hB2 hk1)
end ZW
def zLA (s : State) : Nat → Prop := fun q => s.heap.size ≤ q
theorem z_arr {args : Array Value} {s : State} {ty : FieldType} (hp : ∀ (U : State) (c : ClassId), va_RA U c ty = (U.vm.findClass ("[" ++ ty.toString) = some c)) (h : (Cond.arrayClass ty).before args s = true) : ∃ c : ClassId, ArrOfT s c ty ∧ va_RA s c ty := by
  obtain ⟨c, k, comp, h1, h2, h3⟩ := Cond.arrayClass_spec h
  exact ⟨c, fun n z => ⟨fun q h => (by cases h), k, h2, comp, h3⟩, by rw [hp]; exact h1⟩
theorem z_arrq {args : Array Value} {s : State} {C : String} (h : (Cond.arrayOver (.object C)).before args s = true) : ∃ c : ClassId, ArrOfT s c (.object C) ∧ va_RA s c (.object C) := by
  obtain ⟨comp, c, k, h1, h2, h3, h4, h5⟩ := Cond.arrayOver_spec h
  exact ⟨c, fun n z => ⟨fun q h => (by cases h), k, h3, comp, h4⟩, k, comp, h3, h4, h1, h5⟩
/-- the classes and the arrays' classes at the start -/
theorem z_world {args : Array Value} {s : State} (hts : ∀ w ∈ zTbl, w.before args s = true) : ∃ (D : va_G) (cy : Nat → ClassId), va_K D vwCl (zT cy) s := by
  obtain ⟨c0, i0, k0⟩ := u_known (n := 2) hts zX0_in (hts _ mIa_RX0)
  obtain ⟨c1, i1, k1⟩ := u_known (n := 2) hts zX1_in (hts _ mIa_RX1)
  obtain ⟨c2, i2, k2⟩ := u_known (n := 4) hts zX2_in (hts _ mIa_RX2)
  obtain ⟨c3, i3, k3⟩ := u_known (n := 2) hts zX3_in (hts _ mIa_RX3)
  obtain ⟨c4, i4, k4⟩ := u_known (n := 7) hts zX4_in (hts _ mIa_RX4)
  obtain ⟨c5, i5, k5⟩ := u_known (n := 3) hts zX5_in (hts _ mIa_RX5)
  obtain ⟨c6, i6, k6⟩ := u_known (n := 3) hts zX6_in (hts _ mIa_RX6)
  obtain ⟨c7, i7, k7⟩ := u_known (n := 11) hts zX7_in (hts _ mIa_RX7)
  obtain ⟨c8, i8, k8⟩ := u_known (n := 27) hts zX8_in (hts _ mIa_RX8)
  obtain ⟨a0, g0⟩ := z_arr (ty := .int) (fun _ _ => rfl) (hts _ mA_int)
  obtain ⟨a1, g1⟩ := z_arr (ty := .long) (fun _ _ => rfl) (hts _ mA_long)
  obtain ⟨a2, g2⟩ := z_arr (ty := .boolean) (fun _ _ => rfl) (hts _ mA_boolean)
  obtain ⟨a3, g3⟩ := z_arrq (hts _ mAO_RX4)
  obtain ⟨a4, g4⟩ := z_arrq (hts _ mAO_RX3)
  obtain ⟨a5, g5⟩ := z_arrq (hts _ mAO_RX0)
  obtain ⟨a6, g6⟩ := z_arrq (hts _ mAO_RX1)
  refine ⟨(fun k => match k with | 0 => c0 | 1 => c1 | 2 => c2 | 3 => c3 | 4 => c4 | 5 => c5 | 6 => c6 | 7 => c7 | _ => c8, fun k => match k with | 0 => i0 | 1 => i1 | 2 => i2 | 3 => i3 | 4 => i4 | 5 => i5 | 6 => i6 | 7 => i7 | _ => i8), fun k => match k with | 0 => a0 | 1 => a1 | 2 => a2 | 3 => a3 | 4 => a4 | 5 => a5 | _ => a6, ?_, ?_⟩
  · intro k q hq
    match k, hq with
    | 0, hq => cases hq; exact k0
    | 1, hq => cases hq; exact k1
    | 2, hq => cases hq; exact k2
    | 3, hq => cases hq; exact k3
    | 4, hq => cases hq; exact k4
    | 5, hq => cases hq; exact k5
    | 6, hq => cases hq; exact k6
    | 7, hq => cases hq; exact k7
    | 8, hq => cases hq; exact k8
    | n + 9, hq => cases hq
  · intro k q hq
    match k, hq with
    | 0, hq => cases hq; exact g0
    | 1, hq => cases hq; exact g1
    | 2, hq => cases hq; exact g2
    | 3, hq => cases hq; exact g3
    | 4, hq => cases hq; exact g4
    | 5, hq => cases hq; exact g5
    | 6, hq => cases hq; exact g6
    | n + 7, hq => cases hq
theorem z_sld {p : Program} {l : Launch} {e : Env} {R : Room} {s : State} {m : MethodId} {args : Array Value} {below : List Frame} {meth : Method} {c : Code} {H : Heap} {locs : List Loc} {cells slots : Nat} {Q : State → Prop} {cc : ByteArray} {pc : Nat} {ls : Array Slot} {rest : List Value} {A : Nat → Prop} {H0 : Heap} {b L : Nat} {xs : Nat → Int32} {i : Int32} (j : Nat) (hexec : p.tables.exec = Jvm.exec) (hb : c.code = cc) (hX : va_X b L xs s H0) (hbl : b < H0.size) (hbA : ¬ A b) (hS : va_S A H0 H locs) (hi : i = nI j) (hj : j < L) (hL : L < 2 ^ 31) (hdg : decode cc pc = .ok (.iaload, 1))
    (kk : W p l e R s m args below meth c H locs cells slots Q (F0 m (pc + 1) ls (.int (xs j) :: rest))) : W p l e R s m args below meth c H locs cells slots Q (F0 m pc ls (.int i :: .ref b :: rest)) := by
  subst hi
  refine va_sld hexec hb hX hbl hbA hS (vp_in_nI hj hL) hdg ?_
  rw [nI_clamp (Nat.lt_trans hj hL)]
  exact kk
