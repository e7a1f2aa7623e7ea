/-! addresses apart by what stands there -/
def zx : ∀ {α β γ δ : Type}, Sum α (Sum β (Sum γ δ)) → Nat
  | _, _, _, _, .inl _ => 1
  | _, _, _, _, .inr (.inl _) => 2
  | _, _, _, _, .inr (.inr _) => 3
/-- entries that are told apart by their class, or by their length and what they hold -/
def zd : va_E → va_E → Bool
  | .inr (k, _), .inr (k', _) => !Nat.beq k k'
  | .inl (_, n, x), .inl (_, n', x') => !Nat.beq n n' || !Nat.beq (zx x) (zx x')
  | _, _ => true
theorem zd_rf : ∀ e, zd e e = false
  | .inr (k, _) => by simp [zd]
  | .inl (_, n, x) => by simp [zd]
def zo : va_E → Nat
  | .inr _ => 0
  | .inl _ => 1
def zg : va_E → Nat
  | .inr _ => 0
  | .inl (_, _, .inl _) => 1
  | .inl (_, _, .inr (.inl _)) => 2
  | .inl (_, _, .inr (.inr _)) => 3
theorem z_ne {f : zM} {a b : Nat} {e1 e2 : va_E} (h1 : f a = some e1) (h2 : f b = some e2) (h : zd e1 e2 = true) : a ≠ b := by
  rintro rfl
  rw [h1] at h2
  cases h2
  rw [zd_rf] at h
  cases h
theorem z_neO {f : zM} {a b : Nat} {e1 e2 : va_E} (h1 : f a = some e1) (h2 : f b = some e2) (h : Nat.beq (zo e1) (zo e2) = false) : a ≠ b := by
  rintro rfl
  rw [h1] at h2
  cases h2
  exact absurd (Nat.beq_refl (zo e1)) (by rw [h]; decide)
theorem z_neA {f : zM} {a b : Nat} {e1 e2 : va_E} (h1 : f a = some e1) (h2 : f b = some e2) (h : Nat.beq (zg e1) (zg e2) = false) : a ≠ b := by
  rintro rfl
  rw [h1] at h2
  cases h2
  exact absurd (Nat.beq_refl (zg e1)) (by rw [h]; decide)
theorem z_nn {f : zM} {a q : Nat} {e : va_E} (hq : f q = none) (ha : f a = some e) : a ≠ q := by
  rintro rfl
  rw [hq] at ha
  cases ha
/-! the words of every method that is called -/
theorem zyX7_init : zYi yX7_init cX7_init 2 0 RX7 := ⟨mC_yX7_init, mI_yX7_init, mIn_RX7, rfl, rfl, by decide +kernel, by decide +kernel, by decide +kernel⟩
theorem zyX2_init : zYi yX2_init cX2_init 1 0 RX2 := ⟨mC_yX2_init, mI_yX2_init, mIn_RX2, rfl, rfl, by decide +kernel, by decide +kernel, by decide +kernel⟩
theorem zyX5_init : zYi yX5_init cX5_init 1 0 RX5 := ⟨mC_yX5_init, mI_yX5_init, mIn_RX5, rfl, rfl, by decide +kernel, by decide +kernel, by decide +kernel⟩
theorem zyX6_init : zYi yX6_init cX6_init 1 0 RX6 := ⟨mC_yX6_init, mI_yX6_init, mIn_RX6, rfl, rfl, by decide +kernel, by decide +kernel, by decide +kernel⟩
theorem zyX1_init : zYi yX1_init cX1_init 1 0 RX1 := ⟨mC_yX1_init, mI_yX1_init, mIn_RX1, rfl, rfl, by decide +kernel, by decide +kernel, by decide +kernel⟩
theorem zyX7_cause : zY yX7_cause cX7_cause 2 (Option.some Jvm.ClassFile.FieldType.int) 1 RX7 := ⟨mC_yX7_cause, mI_yX7_cause, mV_yX7_cause, mIn_RX7, rfl, by decide +kernel, by decide +kernel, by decide +kernel⟩
theorem zyX7_lay : zY yX7_lay cX7_lay 2 (Option.some Jvm.ClassFile.FieldType.int) 1 RX7 := ⟨mC_yX7_lay, mI_yX7_lay, mV_yX7_lay, mIn_RX7, rfl, by decide +kernel, by decide +kernel, by decide +kernel⟩
theorem zyX7_wipe : zY yX7_wipe cX7_wipe 2 (Option.some Jvm.ClassFile.FieldType.int) 0 RX7 := ⟨mC_yX7_wipe, mI_yX7_wipe, mV_yX7_wipe, mIn_RX7, rfl, by decide +kernel, by decide +kernel, by decide +kernel⟩
theorem zyX7_point : zY yX7_point cX7_point 5 (Option.some Jvm.ClassFile.FieldType.int) 2 RX7 := ⟨mC_yX7_point, mI_yX7_point, mV_yX7_point, mIn_RX7, rfl, by decide +kernel, by decide +kernel, by decide +kernel⟩
theorem zyX2_none : zY yX2_none cX2_none 1 (Option.none : Option Jvm.ClassFile.FieldType) 0 RX2 := ⟨mC_yX2_none, mI_yX2_none, mV_yX2_none, mIn_RX2, rfl, by decide +kernel, by decide +kernel, by decide +kernel⟩
theorem zyX5_isFull : zY yX5_isFull cX5_isFull 1 (Option.some Jvm.ClassFile.FieldType.boolean) 0 RX5 := ⟨mC_yX5_isFull, mI_yX5_isFull, mV_yX5_isFull, mIn_RX5, rfl, by decide +kernel, by decide +kernel, by decide +kernel⟩
theorem zyX7_oneNan : zYs yX7_oneNan cX7_oneNan 3 (Option.some Jvm.ClassFile.FieldType.long) 1 RX7 := ⟨mC_yX7_oneNan, mS_yX7_oneNan, mIn_RX7, rfl, by decide +kernel, by decide +kernel, by decide +kernel⟩
theorem zyX4_init : zYi yX4_init cX4_init 5 3 RX4 := ⟨mC_yX4_init, mI_yX4_init, mIn_RX4, rfl, rfl, by decide +kernel, by decide +kernel, by decide +kernel⟩
theorem zyX5_add : zY yX5_add cX5_add 2 (Option.some Jvm.ClassFile.FieldType.int) 1 RX5 := ⟨mC_yX5_add, mI_yX5_add, mV_yX5_add, mIn_RX5, rfl, by decide +kernel, by decide +kernel, by decide +kernel⟩
theorem zyX5_hashOf : zY yX5_hashOf cX5_hashOf 8 (Option.some Jvm.ClassFile.FieldType.int) 1 RX5 := ⟨mC_yX5_hashOf, mI_yX5_hashOf, mV_yX5_hashOf, mIn_RX5, rfl, by decide +kernel, by decide +kernel, by decide +kernel⟩
theorem zyX5_hashOfNumbered : zY yX5_hashOfNumbered cX5_hashOfNumbered 4 (Option.some Jvm.ClassFile.FieldType.int) 1 RX5 := ⟨mC_yX5_hashOfNumbered, mI_yX5_hashOfNumbered, mV_yX5_hashOfNumbered, mIn_RX5, rfl, by decide +kernel, by decide +kernel, by decide +kernel⟩
theorem zyX5_find : zY yX5_find cX5_find 3 (Option.some (Jvm.ClassFile.FieldType.object "KindRows$Figure")) 1 RX5 := ⟨mC_yX5_find, mI_yX5_find, mV_yX5_find, mIn_RX5, rfl, by decide +kernel, by decide +kernel, by decide +kernel⟩
theorem zyX5_rank : zY yX5_rank cX5_rank 5 (Option.none : Option Jvm.ClassFile.FieldType) 1 RX5 := ⟨mC_yX5_rank, mI_yX5_rank, mV_yX5_rank, mIn_RX5, rfl, by decide +kernel, by decide +kernel, by decide +kernel⟩
theorem zyX5_compare : zY yX5_compare cX5_compare 4 (Option.some Jvm.ClassFile.FieldType.int) 2 RX5 := ⟨mC_yX5_compare, mI_yX5_compare, mV_yX5_compare, mIn_RX5, rfl, by decide +kernel, by decide +kernel, by decide +kernel⟩
theorem zyJ6_compare_7cf53 : zYs yJ6_compare_7cf53 cJ6_compare_7cf53 2 (Option.some Jvm.ClassFile.FieldType.int) 2 RJ6 := ⟨mC_yJ6_compare_7cf53, mS_yJ6_compare_7cf53, mIn_RJ6, rfl, by decide +kernel, by decide +kernel, by decide +kernel⟩
theorem zyX5_compareFrom : zY yX5_compareFrom cX5_compareFrom 7 (Option.some Jvm.ClassFile.FieldType.int) 3 RX5 := ⟨mC_yX5_compareFrom, mI_yX5_compareFrom, mV_yX5_compareFrom, mIn_RX5, rfl, by decide +kernel, by decide +kernel, by decide +kernel⟩
theorem zyX5_sortKey : zY yX5_sortKey cX5_sortKey 5 (Option.some Jvm.ClassFile.FieldType.long) 2 RX5 := ⟨mC_yX5_sortKey, mI_yX5_sortKey, mV_yX5_sortKey, mIn_RX5, rfl, by decide +kernel, by decide +kernel, by decide +kernel⟩
theorem zyJ13_compare_74951 : zYs yJ13_compare_74951 cJ13_compare_74951 4 (Option.some Jvm.ClassFile.FieldType.int) 2 RJ13 := ⟨mC_yJ13_compare_74951, mS_yJ13_compare_74951, mIn_RJ13, rfl, by decide +kernel, by decide +kernel, by decide +kernel⟩
theorem zyX5_compareAtK : zYs yX5_compareAtK cX5_compareAtK 3 (Option.some Jvm.ClassFile.FieldType.int) 2 RX5 := ⟨mC_yX5_compareAtK, mS_yX5_compareAtK, mIn_RX5, rfl, by decide +kernel, by decide +kernel, by decide +kernel⟩
theorem zyX7_span : zY yX7_span cX7_span 3 (Option.some Jvm.ClassFile.FieldType.int) 2 RX7 := ⟨mC_yX7_span, mI_yX7_span, mV_yX7_span, mIn_RX7, rfl, by decide +kernel, by decide +kernel, by decide +kernel⟩
theorem zyX2_own : zY yX2_own cX2_own 3 (Option.some Jvm.ClassFile.FieldType.int) 2 RX2 := ⟨mC_yX2_own, mI_yX2_own, mV_yX2_own, mIn_RX2, rfl, by decide +kernel, by decide +kernel, by decide +kernel⟩
theorem zyX2_inPart : zY yX2_inPart cX2_inPart 3 (Option.some Jvm.ClassFile.FieldType.int) 2 RX2 := ⟨mC_yX2_inPart, mI_yX2_inPart, mV_yX2_inPart, mIn_RX2, rfl, by decide +kernel, by decide +kernel, by decide +kernel⟩
theorem zyX7_lengthOf : zYs yX7_lengthOf cX7_lengthOf 2 (Option.some Jvm.ClassFile.FieldType.long) 2 RX7 := ⟨mC_yX7_lengthOf, mS_yX7_lengthOf, mIn_RX7, rfl, by decide +kernel, by decide +kernel, by decide +kernel⟩
theorem zyX7_wide : zY yX7_wide cX7_wide 6 (Option.some Jvm.ClassFile.FieldType.int) 3 RX7 := ⟨mC_yX7_wide, mI_yX7_wide, mV_yX7_wide, mIn_RX7, rfl, by decide +kernel, by decide +kernel, by decide +kernel⟩
theorem zyX7_share : zY yX7_share cX7_share 7 (Option.some Jvm.ClassFile.FieldType.int) 2 RX7 := ⟨mC_yX7_share, mI_yX7_share, mV_yX7_share, mIn_RX7, rfl, by decide +kernel, by decide +kernel, by decide +kernel⟩
theorem zyX7_pair : zY yX7_pair cX7_pair 3 (Option.some Jvm.ClassFile.FieldType.int) 2 RX7 := ⟨mC_yX7_pair, mI_yX7_pair, mV_yX7_pair, mIn_RX7, rfl, by decide +kernel, by decide +kernel, by decide +kernel⟩
theorem zyX5_hasOrNone : zY yX5_hasOrNone cX5_hasOrNone 2 (Option.some Jvm.ClassFile.FieldType.boolean) 1 RX5 := ⟨mC_yX5_hasOrNone, mI_yX5_hasOrNone, mV_yX5_hasOrNone, mIn_RX5, rfl, by decide +kernel, by decide +kernel, by decide +kernel⟩
theorem zyX7_row : zY yX7_row cX7_row 4 (Option.some Jvm.ClassFile.FieldType.int) 2 RX7 := ⟨mC_yX7_row, mI_yX7_row, mV_yX7_row, mIn_RX7, rfl, by decide +kernel, by decide +kernel, by decide +kernel⟩
theorem zyX7_numberAt : zY yX7_numberAt cX7_numberAt 2 (Option.some Jvm.ClassFile.FieldType.int) 1 RX7 := ⟨mC_yX7_numberAt, mI_yX7_numberAt, mV_yX7_numberAt, mIn_RX7, rfl, by decide +kernel, by decide +kernel, by decide +kernel⟩
theorem zyX7_rowParts : zY yX7_rowParts cX7_rowParts 6 (Option.some (Jvm.ClassFile.FieldType.array Jvm.ClassFile.FieldType.long)) 3 RX7 := ⟨mC_yX7_rowParts, mI_yX7_rowParts, mV_yX7_rowParts, mIn_RX7, rfl, by decide +kernel, by decide +kernel, by decide +kernel⟩
theorem zyX7_shelf : zY yX7_shelf cX7_shelf 5 (Option.some Jvm.ClassFile.FieldType.int) 2 RX7 := ⟨mC_yX7_shelf, mI_yX7_shelf, mV_yX7_shelf, mIn_RX7, rfl, by decide +kernel, by decide +kernel, by decide +kernel⟩
theorem zyX7_set : zY yX7_set cX7_set 6 (Option.some Jvm.ClassFile.FieldType.int) 3 RX7 := ⟨mC_yX7_set, mI_yX7_set, mV_yX7_set, mIn_RX7, rfl, by decide +kernel, by decide +kernel, by decide +kernel⟩
theorem zyX4_isOf : zY yX4_isOf cX4_isOf 2 (Option.some Jvm.ClassFile.FieldType.boolean) 1 RX4 := ⟨mC_yX4_isOf, mI_yX4_isOf, mV_yX4_isOf, mIn_RX4, rfl, by decide +kernel, by decide +kernel, by decide +kernel⟩
theorem zyX2_inNoPart : zY yX2_inNoPart cX2_inNoPart 2 (Option.some Jvm.ClassFile.FieldType.int) 1 RX2 := ⟨mC_yX2_inNoPart, mI_yX2_inNoPart, mV_yX2_inNoPart, mIn_RX2, rfl, by decide +kernel, by decide +kernel, by decide +kernel⟩
theorem zyX4_hasPlace : zY yX4_hasPlace cX4_hasPlace 2 (Option.some Jvm.ClassFile.FieldType.boolean) 1 RX4 := ⟨mC_yX4_hasPlace, mI_yX4_hasPlace, mV_yX4_hasPlace, mIn_RX4, rfl, by decide +kernel, by decide +kernel, by decide +kernel⟩
theorem zyX4_hold : zY yX4_hold cX4_hold 3 (Option.none : Option Jvm.ClassFile.FieldType) 2 RX4 := ⟨mC_yX4_hold, mI_yX4_hold, mV_yX4_hold, mIn_RX4, rfl, by decide +kernel, by decide +kernel, by decide +kernel⟩
theorem zyX7_at : zY yX7_at cX7_at 4 (Option.some Jvm.ClassFile.FieldType.int) 2 RX7 := ⟨mC_yX7_at, mI_yX7_at, mV_yX7_at, mIn_RX7, rfl, by decide +kernel, by decide +kernel, by decide +kernel⟩
theorem zyX7_kind : zY yX7_kind cX7_kind 3 (Option.some Jvm.ClassFile.FieldType.int) 1 RX7 := ⟨mC_yX7_kind, mI_yX7_kind, mV_yX7_kind, mIn_RX7, rfl, by decide +kernel, by decide +kernel, by decide +kernel⟩
theorem zyX7_parts : zY yX7_parts cX7_parts 3 (Option.some Jvm.ClassFile.FieldType.int) 1 RX7 := ⟨mC_yX7_parts, mI_yX7_parts, mV_yX7_parts, mIn_RX7, rfl, by decide +kernel, by decide +kernel, by decide +kernel⟩
theorem zyX7_part : zY yX7_part cX7_part 4 (Option.some Jvm.ClassFile.FieldType.long) 2 RX7 := ⟨mC_yX7_part, mI_yX7_part, mV_yX7_part, mIn_RX7, rfl, by decide +kernel, by decide +kernel, by decide +kernel⟩
theorem zyX7_weight : zY yX7_weight cX7_weight 4 (Option.some Jvm.ClassFile.FieldType.long) 2 RX7 := ⟨mC_yX7_weight, mI_yX7_weight, mV_yX7_weight, mIn_RX7, rfl, by decide +kernel, by decide +kernel, by decide +kernel⟩
theorem zyX5_weighPairs : zY yX5_weighPairs cX5_weighPairs 5 (Option.none : Option Jvm.ClassFile.FieldType) 0 RX5 := ⟨mC_yX5_weighPairs, mI_yX5_weighPairs, mV_yX5_weighPairs, mIn_RX5, rfl, by decide +kernel, by decide +kernel, by decide +kernel⟩
theorem zyX4_heavyWeight : zY yX4_heavyWeight cX4_heavyWeight 3 (Option.some Jvm.ClassFile.FieldType.long) 0 RX4 := ⟨mC_yX4_heavyWeight, mI_yX4_heavyWeight, mV_yX4_heavyWeight, mIn_RX4, rfl, by decide +kernel, by decide +kernel, by decide +kernel⟩
theorem zyX7_equal : zY yX7_equal cX7_equal 5 (Option.some Jvm.ClassFile.FieldType.int) 2 RX7 := ⟨mC_yX7_equal, mI_yX7_equal, mV_yX7_equal, mIn_RX7, rfl, by decide +kernel, by decide +kernel, by decide +kernel⟩
theorem zyX4_isLike : zY yX4_isLike cX4_isLike 2 (Option.some Jvm.ClassFile.FieldType.boolean) 1 RX4 := ⟨mC_yX4_isLike, mI_yX4_isLike, mV_yX4_isLike, mIn_RX4, rfl, by decide +kernel, by decide +kernel, by decide +kernel⟩
theorem zyX7_hash : zY yX7_hash cX7_hash 3 (Option.some Jvm.ClassFile.FieldType.int) 1 RX7 := ⟨mC_yX7_hash, mI_yX7_hash, mV_yX7_hash, mIn_RX7, rfl, by decide +kernel, by decide +kernel, by decide +kernel⟩
theorem zyX7_order : zY yX7_order cX7_order 5 (Option.some Jvm.ClassFile.FieldType.int) 2 RX7 := ⟨mC_yX7_order, mI_yX7_order, mV_yX7_order, mIn_RX7, rfl, by decide +kernel, by decide +kernel, by decide +kernel⟩
theorem zyX7_ranked : zY yX7_ranked cX7_ranked 2 (Option.some Jvm.ClassFile.FieldType.int) 1 RX7 := ⟨mC_yX7_ranked, mI_yX7_ranked, mV_yX7_ranked, mIn_RX7, rfl, by decide +kernel, by decide +kernel, by decide +kernel⟩
theorem zyX5_numberRanked : zY yX5_numberRanked cX5_numberRanked 2 (Option.some Jvm.ClassFile.FieldType.int) 1 RX5 := ⟨mC_yX5_numberRanked, mI_yX5_numberRanked, mV_yX5_numberRanked, mIn_RX5, rfl, by decide +kernel, by decide +kernel, by decide +kernel⟩
theorem zyX7_first : zY yX7_first cX7_first 3 (Option.some Jvm.ClassFile.FieldType.int) 1 RX7 := ⟨mC_yX7_first, mI_yX7_first, mV_yX7_first, mIn_RX7, rfl, by decide +kernel, by decide +kernel, by decide +kernel⟩
theorem zyX5_firstLike : zY yX5_firstLike cX5_firstLike 3 (Option.some Jvm.ClassFile.FieldType.int) 1 RX5 := ⟨mC_yX5_firstLike, mI_yX5_firstLike, mV_yX5_firstLike, mIn_RX5, rfl, by decide +kernel, by decide +kernel, by decide +kernel⟩
theorem zyX7_family : zY yX7_family cX7_family 6 (Option.some Jvm.ClassFile.FieldType.int) 4 RX7 := ⟨mC_yX7_family, mI_yX7_family, mV_yX7_family, mIn_RX7, rfl, by decide +kernel, by decide +kernel, by decide +kernel⟩
theorem zyX7_areKindsOnce : zYs yX7_areKindsOnce cX7_areKindsOnce 6 (Option.some Jvm.ClassFile.FieldType.boolean) 1 RX7 := ⟨mC_yX7_areKindsOnce, mS_yX7_areKindsOnce, mIn_RX7, rfl, by decide +kernel, by decide +kernel, by decide +kernel⟩
theorem zyX3_init : zYi yX3_init cX3_init 3 1 RX3 := ⟨mC_yX3_init, mI_yX3_init, mIn_RX3, rfl, rfl, by decide +kernel, by decide +kernel, by decide +kernel⟩
theorem zyX7_tag : zY yX7_tag cX7_tag 5 (Option.some Jvm.ClassFile.FieldType.int) 2 RX7 := ⟨mC_yX7_tag, mI_yX7_tag, mV_yX7_tag, mIn_RX7, rfl, by decide +kernel, by decide +kernel, by decide +kernel⟩
theorem zyX7_findFamily : zY yX7_findFamily cX7_findFamily 2 (Option.some (Jvm.ClassFile.FieldType.object "KindRows$Family")) 1 RX7 := ⟨mC_yX7_findFamily, mI_yX7_findFamily, mV_yX7_findFamily, mIn_RX7, rfl, by decide +kernel, by decide +kernel, by decide +kernel⟩
theorem zyX3_tagOf : zY yX3_tagOf cX3_tagOf 4 (Option.some Jvm.ClassFile.FieldType.int) 1 RX3 := ⟨mC_yX3_tagOf, mI_yX3_tagOf, mV_yX3_tagOf, mIn_RX3, rfl, by decide +kernel, by decide +kernel, by decide +kernel⟩
theorem zyX7_tagged : zY yX7_tagged cX7_tagged 7 (Option.some Jvm.ClassFile.FieldType.int) 2 RX7 := ⟨mC_yX7_tagged, mI_yX7_tagged, mV_yX7_tagged, mIn_RX7, rfl, by decide +kernel, by decide +kernel, by decide +kernel⟩
theorem zyX7_constant : zY yX7_constant cX7_constant 5 (Option.some Jvm.ClassFile.FieldType.int) 2 RX7 := ⟨mC_yX7_constant, mI_yX7_constant, mV_yX7_constant, mIn_RX7, rfl, by decide +kernel, by decide +kernel, by decide +kernel⟩
theorem zyX7_findEnumeration : zY yX7_findEnumeration cX7_findEnumeration 2 (Option.some (Jvm.ClassFile.FieldType.object "KindRows$Enumeration")) 1 RX7 := ⟨mC_yX7_findEnumeration, mI_yX7_findEnumeration, mV_yX7_findEnumeration, mIn_RX7, rfl, by decide +kernel, by decide +kernel, by decide +kernel⟩
theorem zyX7_memberNamed : zY yX7_memberNamed cX7_memberNamed 5 (Option.some Jvm.ClassFile.FieldType.int) 2 RX7 := ⟨mC_yX7_memberNamed, mI_yX7_memberNamed, mV_yX7_memberNamed, mIn_RX7, rfl, by decide +kernel, by decide +kernel, by decide +kernel⟩
theorem zyX7_findConstant : zY yX7_findConstant cX7_findConstant 2 (Option.some (Jvm.ClassFile.FieldType.object "KindRows$Constant")) 1 RX7 := ⟨mC_yX7_findConstant, mI_yX7_findConstant, mV_yX7_findConstant, mIn_RX7, rfl, by decide +kernel, by decide +kernel, by decide +kernel⟩
theorem zyX0_init : zYi yX0_init cX0_init 3 2 RX0 := ⟨mC_yX0_init, mI_yX0_init, mIn_RX0, rfl, rfl, by decide +kernel, by decide +kernel, by decide +kernel⟩
theorem zyX1_append : zY yX1_append cX1_append 2 (Option.none : Option Jvm.ClassFile.FieldType) 1 RX1 := ⟨mC_yX1_append, mI_yX1_append, mV_yX1_append, mIn_RX1, rfl, by decide +kernel, by decide +kernel, by decide +kernel⟩
theorem zyX7_named : zY yX7_named cX7_named 5 (Option.some Jvm.ClassFile.FieldType.int) 2 RX7 := ⟨mC_yX7_named, mI_yX7_named, mV_yX7_named, mIn_RX7, rfl, by decide +kernel, by decide +kernel, by decide +kernel⟩
theorem zyX7_drop : zY yX7_drop cX7_drop 4 (Option.some Jvm.ClassFile.FieldType.int) 1 RX7 := ⟨mC_yX7_drop, mI_yX7_drop, mV_yX7_drop, mIn_RX7, rfl, by decide +kernel, by decide +kernel, by decide +kernel⟩
theorem zyX7_homeOf : zY yX7_homeOf cX7_homeOf 3 (Option.some (Jvm.ClassFile.FieldType.object "KindRows$Enumeration")) 1 RX7 := ⟨mC_yX7_homeOf, mI_yX7_homeOf, mV_yX7_homeOf, mIn_RX7, rfl, by decide +kernel, by decide +kernel, by decide +kernel⟩
theorem zyX1_placeOf : zY yX1_placeOf cX1_placeOf 3 (Option.some Jvm.ClassFile.FieldType.int) 1 RX1 := ⟨mC_yX1_placeOf, mI_yX1_placeOf, mV_yX1_placeOf, mIn_RX1, rfl, by decide +kernel, by decide +kernel, by decide +kernel⟩
theorem zyX1_remove : zY yX1_remove cX1_remove 3 (Option.none : Option Jvm.ClassFile.FieldType) 1 RX1 := ⟨mC_yX1_remove, mI_yX1_remove, mV_yX1_remove, mIn_RX1, rfl, by decide +kernel, by decide +kernel, by decide +kernel⟩
theorem zyX7_reorder : zY yX7_reorder cX7_reorder 4 (Option.some Jvm.ClassFile.FieldType.int) 1 RX7 := ⟨mC_yX7_reorder, mI_yX7_reorder, mV_yX7_reorder, mIn_RX7, rfl, by decide +kernel, by decide +kernel, by decide +kernel⟩
theorem zyX7_drawBelow : zY yX7_drawBelow cX7_drawBelow 2 (Option.some Jvm.ClassFile.FieldType.int) 1 RX7 := ⟨mC_yX7_drawBelow, mI_yX7_drawBelow, mV_yX7_drawBelow, mIn_RX7, rfl, by decide +kernel, by decide +kernel, by decide +kernel⟩
theorem zyX1_exchange : zY yX1_exchange cX1_exchange 4 (Option.none : Option Jvm.ClassFile.FieldType) 2 RX1 := ⟨mC_yX1_exchange, mI_yX1_exchange, mV_yX1_exchange, mIn_RX1, rfl, by decide +kernel, by decide +kernel, by decide +kernel⟩
theorem zyX7_seed : zY yX7_seed cX7_seed 3 (Option.some Jvm.ClassFile.FieldType.int) 1 RX7 := ⟨mC_yX7_seed, mI_yX7_seed, mV_yX7_seed, mIn_RX7, rfl, by decide +kernel, by decide +kernel, by decide +kernel⟩
theorem zyX7_told : zY yX7_told cX7_told 5 (Option.some Jvm.ClassFile.FieldType.int) 2 RX7 := ⟨mC_yX7_told, mI_yX7_told, mV_yX7_told, mIn_RX7, rfl, by decide +kernel, by decide +kernel, by decide +kernel⟩
theorem zyX7_placed : zY yX7_placed cX7_placed 4 (Option.some Jvm.ClassFile.FieldType.int) 2 RX7 := ⟨mC_yX7_placed, mI_yX7_placed, mV_yX7_placed, mIn_RX7, rfl, by decide +kernel, by decide +kernel, by decide +kernel⟩
theorem zyX7_put : zY yX7_put cX7_put 4 (Option.some Jvm.ClassFile.FieldType.int) 2 RX7 := ⟨mC_yX7_put, mI_yX7_put, mV_yX7_put, mIn_RX7, rfl, by decide +kernel, by decide +kernel, by decide +kernel⟩
theorem zyX7_keyOf : zYs yX7_keyOf cX7_keyOf 1 (Option.some Jvm.ClassFile.FieldType.int) 1 RX7 := ⟨mC_yX7_keyOf, mS_yX7_keyOf, mIn_RX7, rfl, by decide +kernel, by decide +kernel, by decide +kernel⟩
theorem zyX6_store : zY yX6_store cX6_store 4 (Option.some Jvm.ClassFile.FieldType.int) 2 RX6 := ⟨mC_yX6_store, mI_yX6_store, mV_yX6_store, mIn_RX6, rfl, by decide +kernel, by decide +kernel, by decide +kernel⟩
theorem zyX6_placeOf : zY yX6_placeOf cX6_placeOf 3 (Option.some Jvm.ClassFile.FieldType.int) 1 RX6 := ⟨mC_yX6_placeOf, mI_yX6_placeOf, mV_yX6_placeOf, mIn_RX6, rfl, by decide +kernel, by decide +kernel, by decide +kernel⟩
theorem zyX7_get : zY yX7_get cX7_get 3 (Option.some Jvm.ClassFile.FieldType.int) 1 RX7 := ⟨mC_yX7_get, mI_yX7_get, mV_yX7_get, mIn_RX7, rfl, by decide +kernel, by decide +kernel, by decide +kernel⟩
theorem zyX6_valueOf : zY yX6_valueOf cX6_valueOf 3 (Option.some Jvm.ClassFile.FieldType.int) 1 RX6 := ⟨mC_yX6_valueOf, mI_yX6_valueOf, mV_yX6_valueOf, mIn_RX6, rfl, by decide +kernel, by decide +kernel, by decide +kernel⟩
theorem zyX7_count : zY yX7_count cX7_count 2 (Option.some Jvm.ClassFile.FieldType.int) 1 RX7 := ⟨mC_yX7_count, mI_yX7_count, mV_yX7_count, mIn_RX7, rfl, by decide +kernel, by decide +kernel, by decide +kernel⟩
theorem zyX7_membersOfAll : zY yX7_membersOfAll cX7_membersOfAll 6 (Option.some Jvm.ClassFile.FieldType.int) 0 RX7 := ⟨mC_yX7_membersOfAll, mI_yX7_membersOfAll, mV_yX7_membersOfAll, mIn_RX7, rfl, by decide +kernel, by decide +kernel, by decide +kernel⟩
theorem zyX2_everOf : zY yX2_everOf cX2_everOf 2 (Option.some Jvm.ClassFile.FieldType.int) 1 RX2 := ⟨mC_yX2_everOf, mI_yX2_everOf, mV_yX2_everOf, mIn_RX2, rfl, by decide +kernel, by decide +kernel, by decide +kernel⟩
theorem zyX8_init : zYi yX8_init cX8_init 1 0 RX8 := ⟨mC_yX8_init, mI_yX8_init, mIn_RX8, rfl, rfl, by decide +kernel, by decide +kernel, by decide +kernel⟩
theorem zyX8_cause : zY yX8_cause cX8_cause 2 (Option.some Jvm.ClassFile.FieldType.int) 1 RX8 := ⟨mC_yX8_cause, mI_yX8_cause, mV_yX8_cause, mIn_RX8, rfl, by decide +kernel, by decide +kernel, by decide +kernel⟩
theorem zyX8_lay : zY yX8_lay cX8_lay 2 (Option.some Jvm.ClassFile.FieldType.int) 1 RX8 := ⟨mC_yX8_lay, mI_yX8_lay, mV_yX8_lay, mIn_RX8, rfl, by decide +kernel, by decide +kernel, by decide +kernel⟩
theorem zyX8_wipe : zY yX8_wipe cX8_wipe 2 (Option.some Jvm.ClassFile.FieldType.int) 0 RX8 := ⟨mC_yX8_wipe, mI_yX8_wipe, mV_yX8_wipe, mIn_RX8, rfl, by decide +kernel, by decide +kernel, by decide +kernel⟩
theorem zyX8_point : zY yX8_point cX8_point 5 (Option.some Jvm.ClassFile.FieldType.int) 2 RX8 := ⟨mC_yX8_point, mI_yX8_point, mV_yX8_point, mIn_RX8, rfl, by decide +kernel, by decide +kernel, by decide +kernel⟩
theorem zyX8_begin : zY yX8_begin cX8_begin 1 (Option.none : Option Jvm.ClassFile.FieldType) 0 RX8 := ⟨mC_yX8_begin, mI_yX8_begin, mV_yX8_begin, mIn_RX8, rfl, by decide +kernel, by decide +kernel, by decide +kernel⟩
theorem zyX8_start : zY yX8_start cX8_start 2 (Option.none : Option Jvm.ClassFile.FieldType) 1 RX8 := ⟨mC_yX8_start, mI_yX8_start, mV_yX8_start, mIn_RX8, rfl, by decide +kernel, by decide +kernel, by decide +kernel⟩
theorem zyX8_clean : zYs yX8_clean cX8_clean 2 (Option.some Jvm.ClassFile.FieldType.long) 1 RX8 := ⟨mC_yX8_clean, mS_yX8_clean, mIn_RX8, rfl, by decide +kernel, by decide +kernel, by decide +kernel⟩
theorem zyX8_part : zY yX8_part cX8_part 3 (Option.none : Option Jvm.ClassFile.FieldType) 1 RX8 := ⟨mC_yX8_part, mI_yX8_part, mV_yX8_part, mIn_RX8, rfl, by decide +kernel, by decide +kernel, by decide +kernel⟩
theorem zyX8_made : zY yX8_made cX8_made 1 (Option.some Jvm.ClassFile.FieldType.int) 0 RX8 := ⟨mC_yX8_made, mI_yX8_made, mV_yX8_made, mIn_RX8, rfl, by decide +kernel, by decide +kernel, by decide +kernel⟩
theorem zyX8_leastLike : zY yX8_leastLike cX8_leastLike 5 (Option.some Jvm.ClassFile.FieldType.int) 1 RX8 := ⟨mC_yX8_leastLike, mI_yX8_leastLike, mV_yX8_leastLike, mIn_RX8, rfl, by decide +kernel, by decide +kernel, by decide +kernel⟩
theorem zyX8_isFigurePart : zY yX8_isFigurePart cX8_isFigurePart 2 (Option.some Jvm.ClassFile.FieldType.boolean) 1 RX8 := ⟨mC_yX8_isFigurePart, mI_yX8_isFigurePart, mV_yX8_isFigurePart, mIn_RX8, rfl, by decide +kernel, by decide +kernel, by decide +kernel⟩
theorem zyX8_cellOf : zY yX8_cellOf cX8_cellOf 3 (Option.some Jvm.ClassFile.FieldType.long) 2 RX8 := ⟨mC_yX8_cellOf, mI_yX8_cellOf, mV_yX8_cellOf, mIn_RX8, rfl, by decide +kernel, by decide +kernel, by decide +kernel⟩
theorem zyX8_likeOf : zY yX8_likeOf cX8_likeOf 3 (Option.some Jvm.ClassFile.FieldType.int) 1 RX8 := ⟨mC_yX8_likeOf, mI_yX8_likeOf, mV_yX8_likeOf, mIn_RX8, rfl, by decide +kernel, by decide +kernel, by decide +kernel⟩
theorem zyX8_hashOf : zY yX8_hashOf cX8_hashOf 6 (Option.some Jvm.ClassFile.FieldType.int) 1 RX8 := ⟨mC_yX8_hashOf, mI_yX8_hashOf, mV_yX8_hashOf, mIn_RX8, rfl, by decide +kernel, by decide +kernel, by decide +kernel⟩
theorem zyX8_folded : zYs yX8_folded cX8_folded 2 (Option.some Jvm.ClassFile.FieldType.int) 1 RX8 := ⟨mC_yX8_folded, mS_yX8_folded, mIn_RX8, rfl, by decide +kernel, by decide +kernel, by decide +kernel⟩
theorem zyX8_span : zY yX8_span cX8_span 3 (Option.some Jvm.ClassFile.FieldType.int) 2 RX8 := ⟨mC_yX8_span, mI_yX8_span, mV_yX8_span, mIn_RX8, rfl, by decide +kernel, by decide +kernel, by decide +kernel⟩
theorem zyX8_fails : zY yX8_fails cX8_fails 4 (Option.some Jvm.ClassFile.FieldType.int) 3 RX8 := ⟨mC_yX8_fails, mI_yX8_fails, mV_yX8_fails, mIn_RX8, rfl, by decide +kernel, by decide +kernel, by decide +kernel⟩
theorem zyX8_wide : zY yX8_wide cX8_wide 4 (Option.some Jvm.ClassFile.FieldType.int) 3 RX8 := ⟨mC_yX8_wide, mI_yX8_wide, mV_yX8_wide, mIn_RX8, rfl, by decide +kernel, by decide +kernel, by decide +kernel⟩
theorem zyX8_share : zY yX8_share cX8_share 5 (Option.some Jvm.ClassFile.FieldType.int) 2 RX8 := ⟨mC_yX8_share, mI_yX8_share, mV_yX8_share, mIn_RX8, rfl, by decide +kernel, by decide +kernel, by decide +kernel⟩
theorem zyX8_pair : zY yX8_pair cX8_pair 3 (Option.some Jvm.ClassFile.FieldType.int) 2 RX8 := ⟨mC_yX8_pair, mI_yX8_pair, mV_yX8_pair, mIn_RX8, rfl, by decide +kernel, by decide +kernel, by decide +kernel⟩
theorem zyX8_isFigure : zY yX8_isFigure cX8_isFigure 2 (Option.some Jvm.ClassFile.FieldType.boolean) 1 RX8 := ⟨mC_yX8_isFigure, mI_yX8_isFigure, mV_yX8_isFigure, mIn_RX8, rfl, by decide +kernel, by decide +kernel, by decide +kernel⟩
theorem zyX8_row : zY yX8_row cX8_row 4 (Option.some Jvm.ClassFile.FieldType.int) 2 RX8 := ⟨mC_yX8_row, mI_yX8_row, mV_yX8_row, mIn_RX8, rfl, by decide +kernel, by decide +kernel, by decide +kernel⟩
theorem zyX8_laid : zY yX8_laid cX8_laid 2 (Option.some Jvm.ClassFile.FieldType.int) 1 RX8 := ⟨mC_yX8_laid, mI_yX8_laid, mV_yX8_laid, mIn_RX8, rfl, by decide +kernel, by decide +kernel, by decide +kernel⟩
theorem zyX8_shelf : zY yX8_shelf cX8_shelf 4 (Option.some Jvm.ClassFile.FieldType.int) 2 RX8 := ⟨mC_yX8_shelf, mI_yX8_shelf, mV_yX8_shelf, mIn_RX8, rfl, by decide +kernel, by decide +kernel, by decide +kernel⟩
theorem zyX8_set : zY yX8_set cX8_set 4 (Option.some Jvm.ClassFile.FieldType.int) 3 RX8 := ⟨mC_yX8_set, mI_yX8_set, mV_yX8_set, mIn_RX8, rfl, by decide +kernel, by decide +kernel, by decide +kernel⟩
theorem zyX8_hasPlace : zY yX8_hasPlace cX8_hasPlace 3 (Option.some Jvm.ClassFile.FieldType.boolean) 2 RX8 := ⟨mC_yX8_hasPlace, mI_yX8_hasPlace, mV_yX8_hasPlace, mIn_RX8, rfl, by decide +kernel, by decide +kernel, by decide +kernel⟩
theorem zyX8_at_ : zY yX8_at_ cX8_at_ 3 (Option.some Jvm.ClassFile.FieldType.int) 2 RX8 := ⟨mC_yX8_at_, mI_yX8_at_, mV_yX8_at_, mIn_RX8, rfl, by decide +kernel, by decide +kernel, by decide +kernel⟩
theorem zyX8_kind : zY yX8_kind cX8_kind 2 (Option.some Jvm.ClassFile.FieldType.int) 1 RX8 := ⟨mC_yX8_kind, mI_yX8_kind, mV_yX8_kind, mIn_RX8, rfl, by decide +kernel, by decide +kernel, by decide +kernel⟩
theorem zyX8_parts : zY yX8_parts cX8_parts 2 (Option.some Jvm.ClassFile.FieldType.int) 1 RX8 := ⟨mC_yX8_parts, mI_yX8_parts, mV_yX8_parts, mIn_RX8, rfl, by decide +kernel, by decide +kernel, by decide +kernel⟩
theorem zyX8_part_ : zY yX8_part_ cX8_part_ 3 (Option.some Jvm.ClassFile.FieldType.long) 2 RX8 := ⟨mC_yX8_part_, mI_yX8_part_, mV_yX8_part_, mIn_RX8, rfl, by decide +kernel, by decide +kernel, by decide +kernel⟩
theorem zyX8_at : zY yX8_at cX8_at 5 (Option.some Jvm.ClassFile.FieldType.long) 3 RX8 := ⟨mC_yX8_at, mI_yX8_at, mV_yX8_at, mIn_RX8, rfl, by decide +kernel, by decide +kernel, by decide +kernel⟩
theorem zyX8_weight : zY yX8_weight cX8_weight 4 (Option.some Jvm.ClassFile.FieldType.long) 2 RX8 := ⟨mC_yX8_weight, mI_yX8_weight, mV_yX8_weight, mIn_RX8, rfl, by decide +kernel, by decide +kernel, by decide +kernel⟩
theorem zyX8_weightOf : zY yX8_weightOf cX8_weightOf 8 (Option.some Jvm.ClassFile.FieldType.long) 1 RX8 := ⟨mC_yX8_weightOf, mI_yX8_weightOf, mV_yX8_weightOf, mIn_RX8, rfl, by decide +kernel, by decide +kernel, by decide +kernel⟩
theorem zyX8_heavyOf : zY yX8_heavyOf cX8_heavyOf 4 (Option.some Jvm.ClassFile.FieldType.long) 1 RX8 := ⟨mC_yX8_heavyOf, mI_yX8_heavyOf, mV_yX8_heavyOf, mIn_RX8, rfl, by decide +kernel, by decide +kernel, by decide +kernel⟩
theorem zyX8_equal : zY yX8_equal cX8_equal 3 (Option.some Jvm.ClassFile.FieldType.int) 2 RX8 := ⟨mC_yX8_equal, mI_yX8_equal, mV_yX8_equal, mIn_RX8, rfl, by decide +kernel, by decide +kernel, by decide +kernel⟩
theorem zyX8_hash : zY yX8_hash cX8_hash 2 (Option.some Jvm.ClassFile.FieldType.int) 1 RX8 := ⟨mC_yX8_hash, mI_yX8_hash, mV_yX8_hash, mIn_RX8, rfl, by decide +kernel, by decide +kernel, by decide +kernel⟩
theorem zyX8_first : zY yX8_first cX8_first 2 (Option.some Jvm.ClassFile.FieldType.int) 1 RX8 := ⟨mC_yX8_first, mI_yX8_first, mV_yX8_first, mIn_RX8, rfl, by decide +kernel, by decide +kernel, by decide +kernel⟩
theorem zyX8_order : zY yX8_order cX8_order 3 (Option.some Jvm.ClassFile.FieldType.int) 2 RX8 := ⟨mC_yX8_order, mI_yX8_order, mV_yX8_order, mIn_RX8, rfl, by decide +kernel, by decide +kernel, by decide +kernel⟩
theorem zyX8_ordered : zY yX8_ordered cX8_ordered 3 (Option.some Jvm.ClassFile.FieldType.int) 2 RX8 := ⟨mC_yX8_ordered, mI_yX8_ordered, mV_yX8_ordered, mIn_RX8, rfl, by decide +kernel, by decide +kernel, by decide +kernel⟩
theorem zyX8_compared : zY yX8_compared cX8_compared 10 (Option.some Jvm.ClassFile.FieldType.int) 2 RX8 := ⟨mC_yX8_compared, mI_yX8_compared, mV_yX8_compared, mIn_RX8, rfl, by decide +kernel, by decide +kernel, by decide +kernel⟩
theorem zyX8_by : zYs yX8_by cX8_by 4 (Option.some Jvm.ClassFile.FieldType.int) 2 RX8 := ⟨mC_yX8_by, mS_yX8_by, mIn_RX8, rfl, by decide +kernel, by decide +kernel, by decide +kernel⟩
theorem zyX8_byRows : zY yX8_byRows cX8_byRows 6 (Option.some Jvm.ClassFile.FieldType.int) 2 RX8 := ⟨mC_yX8_byRows, mI_yX8_byRows, mV_yX8_byRows, mIn_RX8, rfl, by decide +kernel, by decide +kernel, by decide +kernel⟩
theorem zyX8_line : zYs yX8_line cX8_line 2 (Option.some Jvm.ClassFile.FieldType.long) 1 RX8 := ⟨mC_yX8_line, mS_yX8_line, mIn_RX8, rfl, by decide +kernel, by decide +kernel, by decide +kernel⟩
theorem zyX8_ranked : zY yX8_ranked cX8_ranked 6 (Option.some Jvm.ClassFile.FieldType.int) 1 RX8 := ⟨mC_yX8_ranked, mI_yX8_ranked, mV_yX8_ranked, mIn_RX8, rfl, by decide +kernel, by decide +kernel, by decide +kernel⟩
theorem zyX8_family : zY yX8_family cX8_family 9 (Option.some Jvm.ClassFile.FieldType.int) 4 RX8 := ⟨mC_yX8_family, mI_yX8_family, mV_yX8_family, mIn_RX8, rfl, by decide +kernel, by decide +kernel, by decide +kernel⟩
theorem zyX8_told4 : zYs yX8_told4 cX8_told4 5 (Option.some Jvm.ClassFile.FieldType.int) 5 RX8 := ⟨mC_yX8_told4, mS_yX8_told4, mIn_RX8, rfl, by decide +kernel, by decide +kernel, by decide +kernel⟩
theorem zyX8_tag : zY yX8_tag cX8_tag 3 (Option.some Jvm.ClassFile.FieldType.int) 2 RX8 := ⟨mC_yX8_tag, mI_yX8_tag, mV_yX8_tag, mIn_RX8, rfl, by decide +kernel, by decide +kernel, by decide +kernel⟩
theorem zyX8_tagOf : zY yX8_tagOf cX8_tagOf 7 (Option.some Jvm.ClassFile.FieldType.int) 2 RX8 := ⟨mC_yX8_tagOf, mI_yX8_tagOf, mV_yX8_tagOf, mIn_RX8, rfl, by decide +kernel, by decide +kernel, by decide +kernel⟩
theorem zyX8_tagged : zY yX8_tagged cX8_tagged 5 (Option.some Jvm.ClassFile.FieldType.int) 2 RX8 := ⟨mC_yX8_tagged, mI_yX8_tagged, mV_yX8_tagged, mIn_RX8, rfl, by decide +kernel, by decide +kernel, by decide +kernel⟩
theorem zyX8_constant : zY yX8_constant cX8_constant 3 (Option.some Jvm.ClassFile.FieldType.int) 2 RX8 := ⟨mC_yX8_constant, mI_yX8_constant, mV_yX8_constant, mIn_RX8, rfl, by decide +kernel, by decide +kernel, by decide +kernel⟩
theorem zyX8_isEnumeration : zYs yX8_isEnumeration cX8_isEnumeration 1 (Option.some Jvm.ClassFile.FieldType.boolean) 1 RX8 := ⟨mC_yX8_isEnumeration, mS_yX8_isEnumeration, mIn_RX8, rfl, by decide +kernel, by decide +kernel, by decide +kernel⟩
theorem zyX8_constantOf : zY yX8_constantOf cX8_constantOf 4 (Option.some Jvm.ClassFile.FieldType.int) 2 RX8 := ⟨mC_yX8_constantOf, mI_yX8_constantOf, mV_yX8_constantOf, mIn_RX8, rfl, by decide +kernel, by decide +kernel, by decide +kernel⟩
theorem zyX8_named : zY yX8_named cX8_named 4 (Option.some Jvm.ClassFile.FieldType.int) 2 RX8 := ⟨mC_yX8_named, mI_yX8_named, mV_yX8_named, mIn_RX8, rfl, by decide +kernel, by decide +kernel, by decide +kernel⟩
theorem zyX8_drop : zY yX8_drop cX8_drop 4 (Option.some Jvm.ClassFile.FieldType.int) 1 RX8 := ⟨mC_yX8_drop, mI_yX8_drop, mV_yX8_drop, mIn_RX8, rfl, by decide +kernel, by decide +kernel, by decide +kernel⟩
theorem zyX8_isConstant : zY yX8_isConstant cX8_isConstant 2 (Option.some Jvm.ClassFile.FieldType.boolean) 1 RX8 := ⟨mC_yX8_isConstant, mI_yX8_isConstant, mV_yX8_isConstant, mIn_RX8, rfl, by decide +kernel, by decide +kernel, by decide +kernel⟩
theorem zyX8_reorder : zY yX8_reorder cX8_reorder 6 (Option.some Jvm.ClassFile.FieldType.int) 1 RX8 := ⟨mC_yX8_reorder, mI_yX8_reorder, mV_yX8_reorder, mIn_RX8, rfl, by decide +kernel, by decide +kernel, by decide +kernel⟩
theorem zyX8_constantAt : zY yX8_constantAt cX8_constantAt 4 (Option.some Jvm.ClassFile.FieldType.int) 2 RX8 := ⟨mC_yX8_constantAt, mI_yX8_constantAt, mV_yX8_constantAt, mIn_RX8, rfl, by decide +kernel, by decide +kernel, by decide +kernel⟩
theorem zyX8_seed : zY yX8_seed cX8_seed 3 (Option.some Jvm.ClassFile.FieldType.int) 1 RX8 := ⟨mC_yX8_seed, mI_yX8_seed, mV_yX8_seed, mIn_RX8, rfl, by decide +kernel, by decide +kernel, by decide +kernel⟩
theorem zyX8_told : zY yX8_told cX8_told 3 (Option.some Jvm.ClassFile.FieldType.int) 2 RX8 := ⟨mC_yX8_told, mI_yX8_told, mV_yX8_told, mIn_RX8, rfl, by decide +kernel, by decide +kernel, by decide +kernel⟩
theorem zyX8_placed : zY yX8_placed cX8_placed 3 (Option.some Jvm.ClassFile.FieldType.int) 2 RX8 := ⟨mC_yX8_placed, mI_yX8_placed, mV_yX8_placed, mIn_RX8, rfl, by decide +kernel, by decide +kernel, by decide +kernel⟩
theorem zyX8_put : zY yX8_put cX8_put 5 (Option.some Jvm.ClassFile.FieldType.int) 2 RX8 := ⟨mC_yX8_put, mI_yX8_put, mV_yX8_put, mIn_RX8, rfl, by decide +kernel, by decide +kernel, by decide +kernel⟩
theorem zyX8_keyOf : zY yX8_keyOf cX8_keyOf 3 (Option.some Jvm.ClassFile.FieldType.int) 1 RX8 := ⟨mC_yX8_keyOf, mI_yX8_keyOf, mV_yX8_keyOf, mIn_RX8, rfl, by decide +kernel, by decide +kernel, by decide +kernel⟩
theorem zyX8_get : zY yX8_get cX8_get 2 (Option.some Jvm.ClassFile.FieldType.int) 1 RX8 := ⟨mC_yX8_get, mI_yX8_get, mV_yX8_get, mIn_RX8, rfl, by decide +kernel, by decide +kernel, by decide +kernel⟩
theorem zyX8_count : zY yX8_count cX8_count 2 (Option.some Jvm.ClassFile.FieldType.int) 1 RX8 := ⟨mC_yX8_count, mI_yX8_count, mV_yX8_count, mIn_RX8, rfl, by decide +kernel, by decide +kernel, by decide +kernel⟩
/-! families of cells: one of them is written -/
theorem z_famW {f f1 : zM} {n : Nat} {ad : Nat → Nat} {T T' : Nat → va_E} (h : ∀ i, i < n → f (ad i) = some (T i)) {j : Nat} (hj : j < n) (hw : f1 (ad j) = some (T' j)) (hk : ∀ b, b ≠ ad j → f1 b = f b) (hT : ∀ i, i ≠ j → T' i = T i) (inj : ∀ i, i < n → ad i = ad j → i = j) : ∀ i, i < n → f1 (ad i) = some (T' i) := by
  intro i hi
  by_cases hij : i = j
  · subst hij
    exact hw
  · rw [hT i hij, hk _ (fun q => hij (inj i hi q))]
    exact h i hi
/-- one more of them -/
theorem z_famP {f : zM} {n q : Nat} {ad ad' : Nat → Nat} {T T' : Nat → va_E} (h : ∀ i, i < n → f (ad i) = some (T i)) (hq : f q = some (T' n)) (ha : ∀ i, i < n → ad' i = ad i) (han : ad' n = q) (hT : ∀ i, i < n → T' i = T i) : ∀ i, i < n + 1 → f (ad' i) = some (T' i) := by
  intro i hi
  rcases Nat.lt_or_ge i n with hlt | hge
  · rw [ha i hlt, hT i hlt]
    exact h i hlt
  · have : i = n := by omega
    subst this
    rw [han]
    exact hq
