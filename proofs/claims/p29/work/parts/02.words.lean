/-- which words of the tables go with a warmed machine -/
def zgood : Cond → Bool
  | .arrayClass _ => true
  | .fieldLinkNest .. => true
  | .methodLinkNest .. => true
  | .arrayOver (.object _) => true
  | w => w.onTables && w.keeps
def zTbl : List Cond := lw_tbl.filter zgood
theorem zmem {w : Cond} (h : w ∈ lw_tbl) (g : zgood w = true) : w ∈ zTbl := List.mem_filter.mpr ⟨h, g⟩
theorem zintab {w : Cond} (h : w ∈ tables_1) (g : zgood w = true) : w ∈ zTbl := zmem (List.mem_append_right _ h) g
theorem zin1 {w : Cond} (h : w ∈ tables_1_1) (g : zgood w = true) : w ∈ zTbl := zintab (List.mem_append_left _ (h)) g
theorem zin2 {w : Cond} (h : w ∈ tables_1_2) (g : zgood w = true) : w ∈ zTbl := zintab (List.mem_append_right _ (List.mem_append_left _ (h))) g
theorem zin3 {w : Cond} (h : w ∈ tables_1_3) (g : zgood w = true) : w ∈ zTbl := zintab (List.mem_append_right _ (List.mem_append_right _ (List.mem_append_left _ (h)))) g
theorem zin4 {w : Cond} (h : w ∈ tables_1_4) (g : zgood w = true) : w ∈ zTbl := zintab (List.mem_append_right _ (List.mem_append_right _ (List.mem_append_right _ (h)))) g
theorem mV_yX5_hashOf : Cond.selects RX5 yX5_hashOf yX5_hashOf ∈ zTbl := zmem (List.mem_append_left _ (List.mem_of_getElem? (i := 0) rfl)) rfl
theorem mV_yX5_hashOfNumbered : Cond.selects RX5 yX5_hashOfNumbered yX5_hashOfNumbered ∈ zTbl := zmem (List.mem_append_left _ (List.mem_of_getElem? (i := 1) rfl)) rfl
theorem mV_yX5_rank : Cond.selects RX5 yX5_rank yX5_rank ∈ zTbl := zmem (List.mem_append_left _ (List.mem_of_getElem? (i := 2) rfl)) rfl
theorem mV_yX5_compare : Cond.selects RX5 yX5_compare yX5_compare ∈ zTbl := zmem (List.mem_append_left _ (List.mem_of_getElem? (i := 3) rfl)) rfl
theorem mV_yX5_compareFrom : Cond.selects RX5 yX5_compareFrom yX5_compareFrom ∈ zTbl := zmem (List.mem_append_left _ (List.mem_of_getElem? (i := 4) rfl)) rfl
theorem mV_yX5_sortKey : Cond.selects RX5 yX5_sortKey yX5_sortKey ∈ zTbl := zmem (List.mem_append_left _ (List.mem_of_getElem? (i := 5) rfl)) rfl
theorem mV_yX7_numberAt : Cond.selects RX7 yX7_numberAt yX7_numberAt ∈ zTbl := zmem (List.mem_append_left _ (List.mem_of_getElem? (i := 6) rfl)) rfl
theorem mV_yX7_rowParts : Cond.selects RX7 yX7_rowParts yX7_rowParts ∈ zTbl := zmem (List.mem_append_left _ (List.mem_of_getElem? (i := 7) rfl)) rfl
theorem mV_yX7_findFamily : Cond.selects RX7 yX7_findFamily yX7_findFamily ∈ zTbl := zmem (List.mem_append_left _ (List.mem_of_getElem? (i := 8) rfl)) rfl
theorem mV_yX7_findEnumeration : Cond.selects RX7 yX7_findEnumeration yX7_findEnumeration ∈ zTbl := zmem (List.mem_append_left _ (List.mem_of_getElem? (i := 9) rfl)) rfl
theorem mV_yX7_memberNamed : Cond.selects RX7 yX7_memberNamed yX7_memberNamed ∈ zTbl := zmem (List.mem_append_left _ (List.mem_of_getElem? (i := 10) rfl)) rfl
theorem mV_yX7_findConstant : Cond.selects RX7 yX7_findConstant yX7_findConstant ∈ zTbl := zmem (List.mem_append_left _ (List.mem_of_getElem? (i := 11) rfl)) rfl
theorem mV_yX7_homeOf : Cond.selects RX7 yX7_homeOf yX7_homeOf ∈ zTbl := zmem (List.mem_append_left _ (List.mem_of_getElem? (i := 12) rfl)) rfl
theorem mV_yX7_drawBelow : Cond.selects RX7 yX7_drawBelow yX7_drawBelow ∈ zTbl := zmem (List.mem_append_left _ (List.mem_of_getElem? (i := 13) rfl)) rfl
theorem mV_yX6_placeOf : Cond.selects RX6 yX6_placeOf yX6_placeOf ∈ zTbl := zmem (List.mem_append_left _ (List.mem_of_getElem? (i := 14) rfl)) rfl
theorem mV_yX7_membersOfAll : Cond.selects RX7 yX7_membersOfAll yX7_membersOfAll ∈ zTbl := zmem (List.mem_append_left _ (List.mem_of_getElem? (i := 15) rfl)) rfl
theorem mV_yX8_begin : Cond.selects RX8 yX8_begin yX8_begin ∈ zTbl := zmem (List.mem_append_left _ (List.mem_of_getElem? (i := 16) rfl)) rfl
theorem mV_yX8_start : Cond.selects RX8 yX8_start yX8_start ∈ zTbl := zmem (List.mem_append_left _ (List.mem_of_getElem? (i := 17) rfl)) rfl
theorem mV_yX8_part : Cond.selects RX8 yX8_part yX8_part ∈ zTbl := zmem (List.mem_append_left _ (List.mem_of_getElem? (i := 18) rfl)) rfl
theorem mV_yX8_made : Cond.selects RX8 yX8_made yX8_made ∈ zTbl := zmem (List.mem_append_left _ (List.mem_of_getElem? (i := 19) rfl)) rfl
theorem mV_yX8_leastLike : Cond.selects RX8 yX8_leastLike yX8_leastLike ∈ zTbl := zmem (List.mem_append_left _ (List.mem_of_getElem? (i := 20) rfl)) rfl
theorem mV_yX8_isFigurePart : Cond.selects RX8 yX8_isFigurePart yX8_isFigurePart ∈ zTbl := zmem (List.mem_append_left _ (List.mem_of_getElem? (i := 21) rfl)) rfl
theorem mV_yX8_cellOf : Cond.selects RX8 yX8_cellOf yX8_cellOf ∈ zTbl := zmem (List.mem_append_left _ (List.mem_of_getElem? (i := 22) rfl)) rfl
theorem mV_yX8_likeOf : Cond.selects RX8 yX8_likeOf yX8_likeOf ∈ zTbl := zmem (List.mem_append_left _ (List.mem_of_getElem? (i := 23) rfl)) rfl
theorem mV_yX8_hashOf : Cond.selects RX8 yX8_hashOf yX8_hashOf ∈ zTbl := zmem (List.mem_append_left _ (List.mem_of_getElem? (i := 24) rfl)) rfl
theorem mV_yX8_fails : Cond.selects RX8 yX8_fails yX8_fails ∈ zTbl := zmem (List.mem_append_left _ (List.mem_of_getElem? (i := 25) rfl)) rfl
theorem mV_yX8_isFigure : Cond.selects RX8 yX8_isFigure yX8_isFigure ∈ zTbl := zmem (List.mem_append_left _ (List.mem_of_getElem? (i := 26) rfl)) rfl
theorem mV_yX8_laid : Cond.selects RX8 yX8_laid yX8_laid ∈ zTbl := zmem (List.mem_append_left _ (List.mem_of_getElem? (i := 27) rfl)) rfl
theorem mV_yX8_hasPlace : Cond.selects RX8 yX8_hasPlace yX8_hasPlace ∈ zTbl := zmem (List.mem_append_left _ (List.mem_of_getElem? (i := 28) rfl)) rfl
theorem mV_yX8_at : Cond.selects RX8 yX8_at yX8_at ∈ zTbl := zmem (List.mem_append_left _ (List.mem_of_getElem? (i := 29) rfl)) rfl
theorem mV_yX8_weightOf : Cond.selects RX8 yX8_weightOf yX8_weightOf ∈ zTbl := zmem (List.mem_append_left _ (List.mem_of_getElem? (i := 30) rfl)) rfl
theorem mV_yX8_heavyOf : Cond.selects RX8 yX8_heavyOf yX8_heavyOf ∈ zTbl := zmem (List.mem_append_left _ (List.mem_of_getElem? (i := 31) rfl)) rfl
theorem mV_yX8_ordered : Cond.selects RX8 yX8_ordered yX8_ordered ∈ zTbl := zmem (List.mem_append_left _ (List.mem_of_getElem? (i := 32) rfl)) rfl
theorem mV_yX8_compared : Cond.selects RX8 yX8_compared yX8_compared ∈ zTbl := zmem (List.mem_append_left _ (List.mem_of_getElem? (i := 33) rfl)) rfl
theorem mV_yX8_byRows : Cond.selects RX8 yX8_byRows yX8_byRows ∈ zTbl := zmem (List.mem_append_left _ (List.mem_of_getElem? (i := 34) rfl)) rfl
theorem mV_yX8_tagOf : Cond.selects RX8 yX8_tagOf yX8_tagOf ∈ zTbl := zmem (List.mem_append_left _ (List.mem_of_getElem? (i := 35) rfl)) rfl
theorem mV_yX8_constantOf : Cond.selects RX8 yX8_constantOf yX8_constantOf ∈ zTbl := zmem (List.mem_append_left _ (List.mem_of_getElem? (i := 36) rfl)) rfl
theorem mV_yX8_isConstant : Cond.selects RX8 yX8_isConstant yX8_isConstant ∈ zTbl := zmem (List.mem_append_left _ (List.mem_of_getElem? (i := 37) rfl)) rfl
theorem mV_yX8_constantAt : Cond.selects RX8 yX8_constantAt yX8_constantAt ∈ zTbl := zmem (List.mem_append_left _ (List.mem_of_getElem? (i := 38) rfl)) rfl
theorem mV_yX8_keyOf : Cond.selects RX8 yX8_keyOf yX8_keyOf ∈ zTbl := zmem (List.mem_append_left _ (List.mem_of_getElem? (i := 39) rfl)) rfl
theorem mIn_RL : Cond.initialized RL ∈ zTbl := zin1 (List.mem_of_getElem? (i := 0) rfl) rfl
theorem mIn_RX7 : Cond.initialized RX7 ∈ zTbl := zin1 (List.mem_of_getElem? (i := 1) rfl) rfl
theorem mIn_RX2 : Cond.initialized RX2 ∈ zTbl := zin1 (List.mem_of_getElem? (i := 2) rfl) rfl
theorem mIn_RX5 : Cond.initialized RX5 ∈ zTbl := zin1 (List.mem_of_getElem? (i := 3) rfl) rfl
theorem mIn_RX6 : Cond.initialized RX6 ∈ zTbl := zin1 (List.mem_of_getElem? (i := 4) rfl) rfl
theorem mIn_RX1 : Cond.initialized RX1 ∈ zTbl := zin1 (List.mem_of_getElem? (i := 5) rfl) rfl
theorem mIn_RX8 : Cond.initialized RX8 ∈ zTbl := zin1 (List.mem_of_getElem? (i := 6) rfl) rfl
theorem mIn_RX4 : Cond.initialized RX4 ∈ zTbl := zin1 (List.mem_of_getElem? (i := 7) rfl) rfl
theorem mIn_RJ6 : Cond.initialized RJ6 ∈ zTbl := zin1 (List.mem_of_getElem? (i := 8) rfl) rfl
theorem mIn_RJ9 : Cond.initialized RJ9 ∈ zTbl := zin1 (List.mem_of_getElem? (i := 9) rfl) rfl
theorem mIn_RJ13 : Cond.initialized RJ13 ∈ zTbl := zin1 (List.mem_of_getElem? (i := 10) rfl) rfl
theorem mIn_RX3 : Cond.initialized RX3 ∈ zTbl := zin1 (List.mem_of_getElem? (i := 11) rfl) rfl
theorem mIn_RX0 : Cond.initialized RX0 ∈ zTbl := zin1 (List.mem_of_getElem? (i := 12) rfl) rfl
theorem mLL_7 : Cond.classLink RL 7 RX7 ∈ zTbl := zin1 (List.mem_of_getElem? (i := 13) rfl) rfl
theorem mIa_RX7 : Cond.instantiable RX7 11 ∈ zTbl := zin1 (List.mem_of_getElem? (i := 14) rfl) rfl
theorem mML_9 : Cond.methodLink RL 9 yX7_init ∈ zTbl := zin1 (List.mem_of_getElem? (i := 15) rfl) rfl
theorem mI_yX7_init : Cond.instanceMethod yX7_init ∈ zTbl := zin1 (List.mem_of_getElem? (i := 16) rfl) rfl
theorem mC_yX7_init : Cond.code yX7_init prog_1_method_1_code 2 (Option.none : Option Jvm.ClassFile.FieldType) ∈ zTbl := zin1 (List.mem_of_getElem? (i := 17) rfl) rfl
theorem mMX7_1 : Cond.methodLink RX7 1 Lib.objectInit ∈ zTbl := zin1 (List.mem_of_getElem? (i := 18) rfl) rfl
theorem mI_yObj : Cond.instanceMethod Lib.objectInit ∈ zTbl := zin1 (List.mem_of_getElem? (i := 19) rfl) rfl
theorem mC_yObj : Cond.code Lib.objectInit ⟨#[0xb1]⟩ 1 none ∈ zTbl := zin1 (List.mem_of_getElem? (i := 20) rfl) rfl
theorem mLX7_7 : Cond.classLink RX7 7 RX2 ∈ zTbl := zin1 (List.mem_of_getElem? (i := 21) rfl) rfl
theorem mIa_RX2 : Cond.instantiable RX2 4 ∈ zTbl := zin1 (List.mem_of_getElem? (i := 22) rfl) rfl
theorem mMNX7_9 : Cond.methodLinkNest RX7 9 yX2_init "KindRows" ∈ zTbl := zin1 (List.mem_of_getElem? (i := 23) rfl) rfl
theorem mI_yX2_init : Cond.instanceMethod yX2_init ∈ zTbl := zin1 (List.mem_of_getElem? (i := 24) rfl) rfl
theorem mC_yX2_init : Cond.code yX2_init prog_4_method_1_code 1 (Option.none : Option Jvm.ClassFile.FieldType) ∈ zTbl := zin1 (List.mem_of_getElem? (i := 25) rfl) rfl
theorem mMX2_3 : Cond.methodLink RX2 3 Lib.objectInit ∈ zTbl := zin1 (List.mem_of_getElem? (i := 26) rfl) rfl
theorem mFX2_9 : Cond.fieldLink RX2 9 (TX2 0).1 (TX2 0).2.1 (TX2 0).2.2.1 ∈ zTbl := zin1 (List.mem_of_getElem? (i := 27) rfl) rfl
theorem mFNX7_67 : Cond.fieldLinkNest RX7 67 (TX2 0).1 (TX2 0).2.1 (TX2 0).2.2.1 "KindRows" ∈ zTbl := zin1 (List.mem_of_getElem? (i := 28) rfl) rfl
theorem mFX2_15 : Cond.fieldLink RX2 15 (TX2 1).1 (TX2 1).2.1 (TX2 1).2.2.1 ∈ zTbl := zin1 (List.mem_of_getElem? (i := 29) rfl) rfl
theorem mFNX7_70 : Cond.fieldLinkNest RX7 70 (TX2 1).1 (TX2 1).2.1 (TX2 1).2.2.1 "KindRows" ∈ zTbl := zin1 (List.mem_of_getElem? (i := 30) rfl) rfl
theorem mFX2_18 : Cond.fieldLink RX2 18 (TX2 2).1 (TX2 2).2.1 (TX2 2).2.2.1 ∈ zTbl := zin1 (List.mem_of_getElem? (i := 31) rfl) rfl
theorem mFNX7_73 : Cond.fieldLinkNest RX7 73 (TX2 2).1 (TX2 2).2.1 (TX2 2).2.2.1 "KindRows" ∈ zTbl := zin1 (List.mem_of_getElem? (i := 32) rfl) rfl
theorem mFX2_21 : Cond.fieldLink RX2 21 (TX2 3).1 (TX2 3).2.1 (TX2 3).2.2.1 ∈ zTbl := zin1 (List.mem_of_getElem? (i := 33) rfl) rfl
theorem mA_int : Cond.arrayClass .int ∈ zTbl := zin1 (List.mem_of_getElem? (i := 43) rfl) rfl
theorem mLX7_16 : Cond.classLink RX7 16 RX5 ∈ zTbl := zin1 (List.mem_of_getElem? (i := 44) rfl) rfl
theorem mIa_RX5 : Cond.instantiable RX5 3 ∈ zTbl := zin1 (List.mem_of_getElem? (i := 45) rfl) rfl
theorem mMNX7_18 : Cond.methodLinkNest RX7 18 yX5_init "KindRows" ∈ zTbl := zin1 (List.mem_of_getElem? (i := 46) rfl) rfl
theorem mI_yX5_init : Cond.instanceMethod yX5_init ∈ zTbl := zin1 (List.mem_of_getElem? (i := 47) rfl) rfl
theorem mC_yX5_init : Cond.code yX5_init prog_7_method_1_code 1 (Option.none : Option Jvm.ClassFile.FieldType) ∈ zTbl := zin1 (List.mem_of_getElem? (i := 48) rfl) rfl
theorem mMX5_3 : Cond.methodLink RX5 3 Lib.objectInit ∈ zTbl := zin1 (List.mem_of_getElem? (i := 49) rfl) rfl
theorem mLX5_11 : Cond.classLink RX5 11 RX4 ∈ zTbl := zin1 (List.mem_of_getElem? (i := 50) rfl) rfl
theorem mAO_RX4 : Cond.arrayOver (.object RX4) ∈ zTbl := zin1 (List.mem_of_getElem? (i := 51) rfl) rfl
theorem mFX5_13 : Cond.fieldLink RX5 13 (TX5 0).1 (TX5 0).2.1 (TX5 0).2.2.1 ∈ zTbl := zin1 (List.mem_of_getElem? (i := 52) rfl) rfl
theorem mFX5_17 : Cond.fieldLink RX5 17 (TX5 1).1 (TX5 1).2.1 (TX5 1).2.2.1 ∈ zTbl := zin1 (List.mem_of_getElem? (i := 53) rfl) rfl
theorem mFX5_20 : Cond.fieldLink RX5 20 (TX5 2).1 (TX5 2).2.1 (TX5 2).2.2.1 ∈ zTbl := zin1 (List.mem_of_getElem? (i := 54) rfl) rfl
theorem mFNX7_201 : Cond.fieldLinkNest RX7 201 (TX5 2).1 (TX5 2).2.1 (TX5 2).2.2.1 "KindRows" ∈ zTbl := zin1 (List.mem_of_getElem? (i := 55) rfl) rfl
theorem mLX7_31 : Cond.classLink RX7 31 RX3 ∈ zTbl := zin1 (List.mem_of_getElem? (i := 63) rfl) rfl
theorem mAO_RX3 : Cond.arrayOver (.object RX3) ∈ zTbl := zin1 (List.mem_of_getElem? (i := 64) rfl) rfl
theorem mLX7_40 : Cond.classLink RX7 40 RX0 ∈ zTbl := zin1 (List.mem_of_getElem? (i := 65) rfl) rfl
theorem mAO_RX0 : Cond.arrayOver (.object RX0) ∈ zTbl := zin1 (List.mem_of_getElem? (i := 66) rfl) rfl
theorem mLX7_49 : Cond.classLink RX7 49 RX1 ∈ zTbl := zin1 (List.mem_of_getElem? (i := 67) rfl) rfl
theorem mAO_RX1 : Cond.arrayOver (.object RX1) ∈ zTbl := zin1 (List.mem_of_getElem? (i := 68) rfl) rfl
theorem mLX7_55 : Cond.classLink RX7 55 RX6 ∈ zTbl := zin1 (List.mem_of_getElem? (i := 69) rfl) rfl
theorem mIa_RX6 : Cond.instantiable RX6 3 ∈ zTbl := zin1 (List.mem_of_getElem? (i := 70) rfl) rfl
theorem mMNX7_57 : Cond.methodLinkNest RX7 57 yX6_init "KindRows" ∈ zTbl := zin1 (List.mem_of_getElem? (i := 71) rfl) rfl
theorem mI_yX6_init : Cond.instanceMethod yX6_init ∈ zTbl := zin1 (List.mem_of_getElem? (i := 72) rfl) rfl
theorem mC_yX6_init : Cond.code yX6_init prog_8_method_1_code 1 (Option.none : Option Jvm.ClassFile.FieldType) ∈ zTbl := zin1 (List.mem_of_getElem? (i := 73) rfl) rfl
theorem mMX6_3 : Cond.methodLink RX6 3 Lib.objectInit ∈ zTbl := zin1 (List.mem_of_getElem? (i := 74) rfl) rfl
theorem mFX6_11 : Cond.fieldLink RX6 11 (TX6 0).1 (TX6 0).2.1 (TX6 0).2.2.1 ∈ zTbl := zin1 (List.mem_of_getElem? (i := 75) rfl) rfl
theorem mFX6_15 : Cond.fieldLink RX6 15 (TX6 1).1 (TX6 1).2.1 (TX6 1).2.2.1 ∈ zTbl := zin1 (List.mem_of_getElem? (i := 76) rfl) rfl
theorem mFX6_18 : Cond.fieldLink RX6 18 (TX6 2).1 (TX6 2).2.1 (TX6 2).2.2.1 ∈ zTbl := zin1 (List.mem_of_getElem? (i := 77) rfl) rfl
theorem mFNX7_265 : Cond.fieldLinkNest RX7 265 (TX6 2).1 (TX6 2).2.1 (TX6 2).2.2.1 "KindRows" ∈ zTbl := zin1 (List.mem_of_getElem? (i := 78) rfl) rfl
theorem mIa_RX1 : Cond.instantiable RX1 2 ∈ zTbl := zin1 (List.mem_of_getElem? (i := 86) rfl) rfl
theorem mMNX7_66 : Cond.methodLinkNest RX7 66 yX1_init "KindRows" ∈ zTbl := zin1 (List.mem_of_getElem? (i := 87) rfl) rfl
theorem mI_yX1_init : Cond.instanceMethod yX1_init ∈ zTbl := zin1 (List.mem_of_getElem? (i := 88) rfl) rfl
theorem mC_yX1_init : Cond.code yX1_init prog_3_method_1_code 1 (Option.none : Option Jvm.ClassFile.FieldType) ∈ zTbl := zin1 (List.mem_of_getElem? (i := 89) rfl) rfl
theorem mMX1_3 : Cond.methodLink RX1 3 Lib.objectInit ∈ zTbl := zin1 (List.mem_of_getElem? (i := 90) rfl) rfl
theorem mFX1_9 : Cond.fieldLink RX1 9 (TX1 0).1 (TX1 0).2.1 (TX1 0).2.2.1 ∈ zTbl := zin1 (List.mem_of_getElem? (i := 91) rfl) rfl
theorem mFNX7_248 : Cond.fieldLinkNest RX7 248 (TX1 0).1 (TX1 0).2.1 (TX1 0).2.2.1 "KindRows" ∈ zTbl := zin1 (List.mem_of_getElem? (i := 92) rfl) rfl
theorem mFX1_15 : Cond.fieldLink RX1 15 (TX1 1).1 (TX1 1).2.1 (TX1 1).2.2.1 ∈ zTbl := zin1 (List.mem_of_getElem? (i := 93) rfl) rfl
theorem mFNX7_227 : Cond.fieldLinkNest RX7 227 (TX1 1).1 (TX1 1).2.1 (TX1 1).2.2.1 "KindRows" ∈ zTbl := zin1 (List.mem_of_getElem? (i := 94) rfl) rfl
theorem mFX7_10 : Cond.fieldLink RX7 10 (TX7 0).1 (TX7 0).2.1 (TX7 0).2.2.1 ∈ zTbl := zin1 (List.mem_of_getElem? (i := 100) rfl) rfl
theorem mFX7_19 : Cond.fieldLink RX7 19 (TX7 1).1 (TX7 1).2.1 (TX7 1).2.2.1 ∈ zTbl := zin1 (List.mem_of_getElem? (i := 101) rfl) rfl
theorem mFX7_23 : Cond.fieldLink RX7 23 (TX7 2).1 (TX7 2).2.1 (TX7 2).2.2.1 ∈ zTbl := zin1 (List.mem_of_getElem? (i := 102) rfl) rfl
theorem mFX7_27 : Cond.fieldLink RX7 27 (TX7 3).1 (TX7 3).2.1 (TX7 3).2.2.1 ∈ zTbl := zin1 (List.mem_of_getElem? (i := 103) rfl) rfl
theorem mFX7_33 : Cond.fieldLink RX7 33 (TX7 4).1 (TX7 4).2.1 (TX7 4).2.2.1 ∈ zTbl := zin1 (List.mem_of_getElem? (i := 104) rfl) rfl
theorem mFX7_37 : Cond.fieldLink RX7 37 (TX7 5).1 (TX7 5).2.1 (TX7 5).2.2.1 ∈ zTbl := zin1 (List.mem_of_getElem? (i := 105) rfl) rfl
theorem mFX7_42 : Cond.fieldLink RX7 42 (TX7 6).1 (TX7 6).2.1 (TX7 6).2.2.1 ∈ zTbl := zin1 (List.mem_of_getElem? (i := 106) rfl) rfl
theorem mFX7_46 : Cond.fieldLink RX7 46 (TX7 7).1 (TX7 7).2.1 (TX7 7).2.2.1 ∈ zTbl := zin1 (List.mem_of_getElem? (i := 107) rfl) rfl
theorem mFX7_51 : Cond.fieldLink RX7 51 (TX7 8).1 (TX7 8).2.1 (TX7 8).2.2.1 ∈ zTbl := zin1 (List.mem_of_getElem? (i := 108) rfl) rfl
theorem mFX7_58 : Cond.fieldLink RX7 58 (TX7 9).1 (TX7 9).2.1 (TX7 9).2.2.1 ∈ zTbl := zin1 (List.mem_of_getElem? (i := 109) rfl) rfl
theorem mFX7_62 : Cond.fieldLink RX7 62 (TX7 10).1 (TX7 10).2.1 (TX7 10).2.2.1 ∈ zTbl := zin1 (List.mem_of_getElem? (i := 110) rfl) rfl
theorem mML_13 : Cond.methodLink RL 13 yX7_cause ∈ zTbl := zin1 (List.mem_of_getElem? (i := 134) rfl) rfl
theorem mI_yX7_cause : Cond.instanceMethod yX7_cause ∈ zTbl := zin1 (List.mem_of_getElem? (i := 135) rfl) rfl
theorem mV_yX7_cause : Cond.selects RX7 yX7_cause yX7_cause ∈ zTbl := zin1 (List.mem_of_getElem? (i := 136) rfl) rfl
theorem mC_yX7_cause : Cond.code yX7_cause prog_1_method_2_code 2 (Option.some Jvm.ClassFile.FieldType.int) ∈ zTbl := zin1 (List.mem_of_getElem? (i := 137) rfl) rfl
theorem mML_18 : Cond.methodLink RL 18 yX7_lay ∈ zTbl := zin1 (List.mem_of_getElem? (i := 138) rfl) rfl
theorem mI_yX7_lay : Cond.instanceMethod yX7_lay ∈ zTbl := zin1 (List.mem_of_getElem? (i := 139) rfl) rfl
theorem mV_yX7_lay : Cond.selects RX7 yX7_lay yX7_lay ∈ zTbl := zin1 (List.mem_of_getElem? (i := 140) rfl) rfl
theorem mC_yX7_lay : Cond.code yX7_lay prog_1_method_3_code 2 (Option.some Jvm.ClassFile.FieldType.int) ∈ zTbl := zin1 (List.mem_of_getElem? (i := 141) rfl) rfl
theorem mML_22 : Cond.methodLink RL 22 yX7_wipe ∈ zTbl := zin1 (List.mem_of_getElem? (i := 142) rfl) rfl
theorem mI_yX7_wipe : Cond.instanceMethod yX7_wipe ∈ zTbl := zin1 (List.mem_of_getElem? (i := 143) rfl) rfl
theorem mV_yX7_wipe : Cond.selects RX7 yX7_wipe yX7_wipe ∈ zTbl := zin1 (List.mem_of_getElem? (i := 144) rfl) rfl
theorem mC_yX7_wipe : Cond.code yX7_wipe prog_1_method_4_code 2 (Option.some Jvm.ClassFile.FieldType.int) ∈ zTbl := zin1 (List.mem_of_getElem? (i := 145) rfl) rfl
theorem mML_29 : Cond.methodLink RL 29 yX7_point ∈ zTbl := zin1 (List.mem_of_getElem? (i := 146) rfl) rfl
theorem mI_yX7_point : Cond.instanceMethod yX7_point ∈ zTbl := zin1 (List.mem_of_getElem? (i := 147) rfl) rfl
theorem mV_yX7_point : Cond.selects RX7 yX7_point yX7_point ∈ zTbl := zin1 (List.mem_of_getElem? (i := 148) rfl) rfl
theorem mC_yX7_point : Cond.code yX7_point prog_1_method_5_code 5 (Option.some Jvm.ClassFile.FieldType.int) ∈ zTbl := zin1 (List.mem_of_getElem? (i := 149) rfl) rfl
theorem mMX7_76 : Cond.methodLink RX7 76 yX2_none ∈ zTbl := zin1 (List.mem_of_getElem? (i := 150) rfl) rfl
theorem mI_yX2_none : Cond.instanceMethod yX2_none ∈ zTbl := zin1 (List.mem_of_getElem? (i := 151) rfl) rfl
theorem mV_yX2_none : Cond.selects RX2 yX2_none yX2_none ∈ zTbl := zin1 (List.mem_of_getElem? (i := 152) rfl) rfl
theorem mC_yX2_none : Cond.code yX2_none prog_4_method_2_code 1 (Option.none : Option Jvm.ClassFile.FieldType) ∈ zTbl := zin1 (List.mem_of_getElem? (i := 153) rfl) rfl
theorem mMX7_79 : Cond.methodLink RX7 79 yX5_isFull ∈ zTbl := zin1 (List.mem_of_getElem? (i := 154) rfl) rfl
theorem mI_yX5_isFull : Cond.instanceMethod yX5_isFull ∈ zTbl := zin1 (List.mem_of_getElem? (i := 155) rfl) rfl
theorem mV_yX5_isFull : Cond.selects RX5 yX5_isFull yX5_isFull ∈ zTbl := zin1 (List.mem_of_getElem? (i := 156) rfl) rfl
theorem mC_yX5_isFull : Cond.code yX5_isFull prog_7_method_2_code 1 (Option.some Jvm.ClassFile.FieldType.boolean) ∈ zTbl := zin1 (List.mem_of_getElem? (i := 157) rfl) rfl
theorem mLX7_83 : Cond.classLink RX7 83 RX4 ∈ zTbl := zin1 (List.mem_of_getElem? (i := 158) rfl) rfl
theorem mIa_RX4 : Cond.instantiable RX4 7 ∈ zTbl := zin1 (List.mem_of_getElem? (i := 159) rfl) rfl
theorem mMX7_85 : Cond.methodLink RX7 85 yX7_oneNan ∈ zTbl := zin1 (List.mem_of_getElem? (i := 160) rfl) rfl
theorem mS_yX7_oneNan : Cond.static yX7_oneNan ∈ zTbl := zin1 (List.mem_of_getElem? (i := 161) rfl) rfl
theorem mC_yX7_oneNan : Cond.code yX7_oneNan prog_1_method_36_code 3 (Option.some Jvm.ClassFile.FieldType.long) ∈ zTbl := zin1 (List.mem_of_getElem? (i := 162) rfl) rfl
theorem mKX7_269 : Cond.constantLong RX7 269 (9223372036854775807) ∈ zTbl := zin1 (List.mem_of_getElem? (i := 163) rfl) rfl
theorem mKX7_271 : Cond.constantLong RX7 271 (9218868437227405312) ∈ zTbl := zin1 (List.mem_of_getElem? (i := 164) rfl) rfl
theorem mKX7_273 : Cond.constantLong RX7 273 (9221120237041090560) ∈ zTbl := zin1 (List.mem_of_getElem? (i := 165) rfl) rfl
theorem mMX7_89 : Cond.methodLink RX7 89 yX4_init ∈ zTbl := zin1 (List.mem_of_getElem? (i := 166) rfl) rfl
theorem mI_yX4_init : Cond.instanceMethod yX4_init ∈ zTbl := zin1 (List.mem_of_getElem? (i := 167) rfl) rfl
theorem mC_yX4_init : Cond.code yX4_init prog_6_method_1_code 5 (Option.none : Option Jvm.ClassFile.FieldType) ∈ zTbl := zin1 (List.mem_of_getElem? (i := 168) rfl) rfl
theorem mMX4_3 : Cond.methodLink RX4 3 Lib.objectInit ∈ zTbl := zin1 (List.mem_of_getElem? (i := 169) rfl) rfl
theorem mFX4_25 : Cond.fieldLink RX4 25 (TX4 0).1 (TX4 0).2.1 (TX4 0).2.2.1 ∈ zTbl := zin1 (List.mem_of_getElem? (i := 170) rfl) rfl
theorem mFNX3_19 : Cond.fieldLinkNest RX3 19 (TX4 0).1 (TX4 0).2.1 (TX4 0).2.2.1 "KindRows" ∈ zTbl := zin1 (List.mem_of_getElem? (i := 171) rfl) rfl
theorem mFNX5_42 : Cond.fieldLinkNest RX5 42 (TX4 0).1 (TX4 0).2.1 (TX4 0).2.2.1 "KindRows" ∈ zTbl := zin1 (List.mem_of_getElem? (i := 172) rfl) rfl
theorem mFNX7_134 : Cond.fieldLinkNest RX7 134 (TX4 0).1 (TX4 0).2.1 (TX4 0).2.2.1 "KindRows" ∈ zTbl := zin1 (List.mem_of_getElem? (i := 173) rfl) rfl
theorem mFX4_28 : Cond.fieldLink RX4 28 (TX4 1).1 (TX4 1).2.1 (TX4 1).2.2.1 ∈ zTbl := zin1 (List.mem_of_getElem? (i := 174) rfl) rfl
theorem mFNX5_45 : Cond.fieldLinkNest RX5 45 (TX4 1).1 (TX4 1).2.1 (TX4 1).2.2.1 "KindRows" ∈ zTbl := zin1 (List.mem_of_getElem? (i := 175) rfl) rfl
theorem mFNX7_150 : Cond.fieldLinkNest RX7 150 (TX4 1).1 (TX4 1).2.1 (TX4 1).2.2.1 "KindRows" ∈ zTbl := zin1 (List.mem_of_getElem? (i := 176) rfl) rfl
theorem mFX4_32 : Cond.fieldLink RX4 32 (TX4 2).1 (TX4 2).2.1 (TX4 2).2.2.1 ∈ zTbl := zin1 (List.mem_of_getElem? (i := 177) rfl) rfl
theorem mFNX5_53 : Cond.fieldLinkNest RX5 53 (TX4 2).1 (TX4 2).2.1 (TX4 2).2.2.1 "KindRows" ∈ zTbl := zin1 (List.mem_of_getElem? (i := 178) rfl) rfl
theorem mFNX7_163 : Cond.fieldLinkNest RX7 163 (TX4 2).1 (TX4 2).2.1 (TX4 2).2.2.1 "KindRows" ∈ zTbl := zin1 (List.mem_of_getElem? (i := 179) rfl) rfl
theorem mFX4_9 : Cond.fieldLink RX4 9 (TX4 3).1 (TX4 3).2.1 (TX4 3).2.2.1 ∈ zTbl := zin1 (List.mem_of_getElem? (i := 180) rfl) rfl
theorem mFNX7_126 : Cond.fieldLinkNest RX7 126 (TX4 3).1 (TX4 3).2.1 (TX4 3).2.2.1 "KindRows" ∈ zTbl := zin1 (List.mem_of_getElem? (i := 181) rfl) rfl
theorem mFX4_15 : Cond.fieldLink RX4 15 (TX4 4).1 (TX4 4).2.1 (TX4 4).2.2.1 ∈ zTbl := zin1 (List.mem_of_getElem? (i := 182) rfl) rfl
theorem mFNX5_28 : Cond.fieldLinkNest RX5 28 (TX4 4).1 (TX4 4).2.1 (TX4 4).2.2.1 "KindRows" ∈ zTbl := zin1 (List.mem_of_getElem? (i := 183) rfl) rfl
theorem mFX4_19 : Cond.fieldLink RX4 19 (TX4 5).1 (TX4 5).2.1 (TX4 5).2.2.1 ∈ zTbl := zin1 (List.mem_of_getElem? (i := 184) rfl) rfl
theorem mFNX5_35 : Cond.fieldLinkNest RX5 35 (TX4 5).1 (TX4 5).2.1 (TX4 5).2.2.1 "KindRows" ∈ zTbl := zin1 (List.mem_of_getElem? (i := 185) rfl) rfl
theorem mFNX7_170 : Cond.fieldLinkNest RX7 170 (TX4 5).1 (TX4 5).2.1 (TX4 5).2.2.1 "KindRows" ∈ zTbl := zin1 (List.mem_of_getElem? (i := 186) rfl) rfl
theorem mFX4_22 : Cond.fieldLink RX4 22 (TX4 6).1 (TX4 6).2.1 (TX4 6).2.2.1 ∈ zTbl := zin1 (List.mem_of_getElem? (i := 187) rfl) rfl
theorem mFNX5_69 : Cond.fieldLinkNest RX5 69 (TX4 6).1 (TX4 6).2.1 (TX4 6).2.2.1 "KindRows" ∈ zTbl := zin1 (List.mem_of_getElem? (i := 188) rfl) rfl
theorem mFNX7_173 : Cond.fieldLinkNest RX7 173 (TX4 6).1 (TX4 6).2.1 (TX4 6).2.2.1 "KindRows" ∈ zTbl := zin1 (List.mem_of_getElem? (i := 189) rfl) rfl
theorem mA_long : Cond.arrayClass .long ∈ zTbl := zin1 (List.mem_of_getElem? (i := 205) rfl) rfl
theorem mMX7_92 : Cond.methodLink RX7 92 yX5_add ∈ zTbl := zin1 (List.mem_of_getElem? (i := 206) rfl) rfl
theorem mI_yX5_add : Cond.instanceMethod yX5_add ∈ zTbl := zin1 (List.mem_of_getElem? (i := 207) rfl) rfl
theorem mV_yX5_add : Cond.selects RX5 yX5_add yX5_add ∈ zTbl := zin1 (List.mem_of_getElem? (i := 208) rfl) rfl
theorem mC_yX5_add : Cond.code yX5_add prog_7_method_5_code 2 (Option.some Jvm.ClassFile.FieldType.int) ∈ zTbl := zin1 (List.mem_of_getElem? (i := 209) rfl) rfl
theorem mMX5_31 : Cond.methodLink RX5 31 yX5_hashOf ∈ zTbl := zin1 (List.mem_of_getElem? (i := 210) rfl) rfl
theorem mI_yX5_hashOf : Cond.instanceMethod yX5_hashOf ∈ zTbl := zin1 (List.mem_of_getElem? (i := 212) rfl) rfl
theorem mC_yX5_hashOf : Cond.code yX5_hashOf prog_7_method_9_code 8 (Option.some Jvm.ClassFile.FieldType.int) ∈ zTbl := zin1 (List.mem_of_getElem? (i := 213) rfl) rfl
theorem mMX5_61 : Cond.methodLink RX5 61 yX5_hashOfNumbered ∈ zTbl := zin1 (List.mem_of_getElem? (i := 214) rfl) rfl
theorem mI_yX5_hashOfNumbered : Cond.instanceMethod yX5_hashOfNumbered ∈ zTbl := zin1 (List.mem_of_getElem? (i := 216) rfl) rfl
theorem mC_yX5_hashOfNumbered : Cond.code yX5_hashOfNumbered prog_7_method_10_code 4 (Option.some Jvm.ClassFile.FieldType.int) ∈ zTbl := zin1 (List.mem_of_getElem? (i := 217) rfl) rfl
theorem mMX5_24 : Cond.methodLink RX5 24 yX5_find ∈ zTbl := zin1 (List.mem_of_getElem? (i := 218) rfl) rfl
theorem mI_yX5_find : Cond.instanceMethod yX5_find ∈ zTbl := zin1 (List.mem_of_getElem? (i := 219) rfl) rfl
theorem mV_yX5_find : Cond.selects RX5 yX5_find yX5_find ∈ zTbl := zin1 (List.mem_of_getElem? (i := 220) rfl) rfl
theorem mC_yX5_find : Cond.code yX5_find prog_7_method_3_code 3 (Option.some (Jvm.ClassFile.FieldType.object "KindRows$Figure")) ∈ zTbl := zin1 (List.mem_of_getElem? (i := 221) rfl) rfl
theorem mMX5_38 : Cond.methodLink RX5 38 yX5_rank ∈ zTbl := zin1 (List.mem_of_getElem? (i := 222) rfl) rfl
theorem mI_yX5_rank : Cond.instanceMethod yX5_rank ∈ zTbl := zin1 (List.mem_of_getElem? (i := 224) rfl) rfl
theorem mC_yX5_rank : Cond.code yX5_rank prog_7_method_11_code 5 (Option.none : Option Jvm.ClassFile.FieldType) ∈ zTbl := zin1 (List.mem_of_getElem? (i := 225) rfl) rfl
theorem mMX5_65 : Cond.methodLink RX5 65 yX5_compare ∈ zTbl := zin1 (List.mem_of_getElem? (i := 226) rfl) rfl
theorem mI_yX5_compare : Cond.instanceMethod yX5_compare ∈ zTbl := zin1 (List.mem_of_getElem? (i := 228) rfl) rfl
theorem mC_yX5_compare : Cond.code yX5_compare prog_7_method_12_code 4 (Option.some Jvm.ClassFile.FieldType.int) ∈ zTbl := zin1 (List.mem_of_getElem? (i := 229) rfl) rfl
theorem mMX5_72 : Cond.methodLink RX5 72 yJ6_compare_7cf53 ∈ zTbl := zin1 (List.mem_of_getElem? (i := 230) rfl) rfl
theorem mS_yJ6_compare_7cf53 : Cond.static yJ6_compare_7cf53 ∈ zTbl := zin1 (List.mem_of_getElem? (i := 231) rfl) rfl
theorem mC_yJ6_compare_7cf53 : Cond.code yJ6_compare_7cf53 prog_11_method_40_code 2 (Option.some Jvm.ClassFile.FieldType.int) ∈ zTbl := zin1 (List.mem_of_getElem? (i := 232) rfl) rfl
theorem mMX5_77 : Cond.methodLink RX5 77 yX5_compareFrom ∈ zTbl := zin1 (List.mem_of_getElem? (i := 233) rfl) rfl
theorem mI_yX5_compareFrom : Cond.instanceMethod yX5_compareFrom ∈ zTbl := zin1 (List.mem_of_getElem? (i := 235) rfl) rfl
theorem mC_yX5_compareFrom : Cond.code yX5_compareFrom prog_7_method_14_code 7 (Option.some Jvm.ClassFile.FieldType.int) ∈ zTbl := zin1 (List.mem_of_getElem? (i := 236) rfl) rfl
theorem mMX5_89 : Cond.methodLink RX5 89 Lib.Math.min.name ∈ zTbl := zin1 (List.mem_of_getElem? (i := 237) rfl) rfl
theorem mS_yMin : Cond.static Lib.Math.min.name ∈ zTbl := zin1 (List.mem_of_getElem? (i := 238) rfl) rfl
theorem mC_yMin : Cond.code Lib.Math.min.name prog_13_method_69_code 2 (Option.some Jvm.ClassFile.FieldType.int) ∈ zTbl := zin1 (List.mem_of_getElem? (i := 239) rfl) rfl
theorem mMX5_94 : Cond.methodLink RX5 94 yX5_sortKey ∈ zTbl := zin2 (List.mem_of_getElem? (i := 0) rfl) rfl
theorem mI_yX5_sortKey : Cond.instanceMethod yX5_sortKey ∈ zTbl := zin2 (List.mem_of_getElem? (i := 2) rfl) rfl
theorem mC_yX5_sortKey : Cond.code yX5_sortKey prog_7_method_15_code 5 (Option.some Jvm.ClassFile.FieldType.long) ∈ zTbl := zin2 (List.mem_of_getElem? (i := 3) rfl) rfl
theorem mKX5_98 : Cond.constantLong RX5 98 (9223372036854775807) ∈ zTbl := zin2 (List.mem_of_getElem? (i := 4) rfl) rfl
theorem mKX5_100 : Cond.constantLong RX5 100 (-1) ∈ zTbl := zin2 (List.mem_of_getElem? (i := 5) rfl) rfl
theorem mMX5_84 : Cond.methodLink RX5 84 yJ13_compare_74951 ∈ zTbl := zin2 (List.mem_of_getElem? (i := 6) rfl) rfl
theorem mS_yJ13_compare_74951 : Cond.static yJ13_compare_74951 ∈ zTbl := zin2 (List.mem_of_getElem? (i := 7) rfl) rfl
theorem mC_yJ13_compare_74951 : Cond.code yJ13_compare_74951 prog_12_method_42_code 4 (Option.some Jvm.ClassFile.FieldType.int) ∈ zTbl := zin2 (List.mem_of_getElem? (i := 8) rfl) rfl
theorem mMX5_81 : Cond.methodLink RX5 81 yX5_compareAtK ∈ zTbl := zin2 (List.mem_of_getElem? (i := 9) rfl) rfl
theorem mS_yX5_compareAtK : Cond.static yX5_compareAtK ∈ zTbl := zin2 (List.mem_of_getElem? (i := 10) rfl) rfl
theorem mC_yX5_compareAtK : Cond.code yX5_compareAtK prog_7_method_13_code 3 (Option.some Jvm.ClassFile.FieldType.int) ∈ zTbl := zin2 (List.mem_of_getElem? (i := 11) rfl) rfl
theorem mML_34 : Cond.methodLink RL 34 yX7_span ∈ zTbl := zin2 (List.mem_of_getElem? (i := 12) rfl) rfl
theorem mI_yX7_span : Cond.instanceMethod yX7_span ∈ zTbl := zin2 (List.mem_of_getElem? (i := 13) rfl) rfl
theorem mV_yX7_span : Cond.selects RX7 yX7_span yX7_span ∈ zTbl := zin2 (List.mem_of_getElem? (i := 14) rfl) rfl
theorem mC_yX7_span : Cond.code yX7_span prog_1_method_6_code 3 (Option.some Jvm.ClassFile.FieldType.int) ∈ zTbl := zin2 (List.mem_of_getElem? (i := 15) rfl) rfl
theorem mMX7_96 : Cond.methodLink RX7 96 yX2_own ∈ zTbl := zin2 (List.mem_of_getElem? (i := 16) rfl) rfl
theorem mI_yX2_own : Cond.instanceMethod yX2_own ∈ zTbl := zin2 (List.mem_of_getElem? (i := 17) rfl) rfl
theorem mV_yX2_own : Cond.selects RX2 yX2_own yX2_own ∈ zTbl := zin2 (List.mem_of_getElem? (i := 18) rfl) rfl
theorem mC_yX2_own : Cond.code yX2_own prog_4_method_3_code 3 (Option.some Jvm.ClassFile.FieldType.int) ∈ zTbl := zin2 (List.mem_of_getElem? (i := 19) rfl) rfl
theorem mMX2_25 : Cond.methodLink RX2 25 yX2_inPart ∈ zTbl := zin2 (List.mem_of_getElem? (i := 20) rfl) rfl
theorem mI_yX2_inPart : Cond.instanceMethod yX2_inPart ∈ zTbl := zin2 (List.mem_of_getElem? (i := 21) rfl) rfl
theorem mV_yX2_inPart : Cond.selects RX2 yX2_inPart yX2_inPart ∈ zTbl := zin2 (List.mem_of_getElem? (i := 22) rfl) rfl
theorem mC_yX2_inPart : Cond.code yX2_inPart prog_4_method_5_code 3 (Option.some Jvm.ClassFile.FieldType.int) ∈ zTbl := zin2 (List.mem_of_getElem? (i := 23) rfl) rfl
theorem mMX7_100 : Cond.methodLink RX7 100 yX7_lengthOf ∈ zTbl := zin2 (List.mem_of_getElem? (i := 24) rfl) rfl
theorem mS_yX7_lengthOf : Cond.static yX7_lengthOf ∈ zTbl := zin2 (List.mem_of_getElem? (i := 25) rfl) rfl
theorem mC_yX7_lengthOf : Cond.code yX7_lengthOf prog_1_method_37_code 2 (Option.some Jvm.ClassFile.FieldType.long) ∈ zTbl := zin2 (List.mem_of_getElem? (i := 26) rfl) rfl
theorem mML_39 : Cond.methodLink RL 39 yX7_wide ∈ zTbl := zin2 (List.mem_of_getElem? (i := 27) rfl) rfl
theorem mI_yX7_wide : Cond.instanceMethod yX7_wide ∈ zTbl := zin2 (List.mem_of_getElem? (i := 28) rfl) rfl
theorem mV_yX7_wide : Cond.selects RX7 yX7_wide yX7_wide ∈ zTbl := zin2 (List.mem_of_getElem? (i := 29) rfl) rfl
theorem mC_yX7_wide : Cond.code yX7_wide prog_1_method_7_code 6 (Option.some Jvm.ClassFile.FieldType.int) ∈ zTbl := zin2 (List.mem_of_getElem? (i := 30) rfl) rfl
theorem mMX7_104 : Cond.methodLink RX7 104 yX2_inPart ∈ zTbl := zin2 (List.mem_of_getElem? (i := 31) rfl) rfl
theorem mMX7_107 : Cond.methodLink RX7 107 Lib.MathLoose.abs_long.x ∈ zTbl := zin2 (List.mem_of_getElem? (i := 32) rfl) rfl
theorem mS_yAbs : Cond.static Lib.MathLoose.abs_long.x ∈ zTbl := zin2 (List.mem_of_getElem? (i := 33) rfl) rfl
theorem mC_yAbs : Cond.code Lib.MathLoose.abs_long.x prog_13_method_61_code 2 (Option.some Jvm.ClassFile.FieldType.long) ∈ zTbl := zin2 (List.mem_of_getElem? (i := 34) rfl) rfl
theorem mML_44 : Cond.methodLink RL 44 yX7_share ∈ zTbl := zin2 (List.mem_of_getElem? (i := 35) rfl) rfl
theorem mI_yX7_share : Cond.instanceMethod yX7_share ∈ zTbl := zin2 (List.mem_of_getElem? (i := 36) rfl) rfl
theorem mV_yX7_share : Cond.selects RX7 yX7_share yX7_share ∈ zTbl := zin2 (List.mem_of_getElem? (i := 37) rfl) rfl
theorem mC_yX7_share : Cond.code yX7_share prog_1_method_8_code 7 (Option.some Jvm.ClassFile.FieldType.int) ∈ zTbl := zin2 (List.mem_of_getElem? (i := 38) rfl) rfl
theorem mML_48 : Cond.methodLink RL 48 yX7_pair ∈ zTbl := zin2 (List.mem_of_getElem? (i := 39) rfl) rfl
theorem mI_yX7_pair : Cond.instanceMethod yX7_pair ∈ zTbl := zin2 (List.mem_of_getElem? (i := 40) rfl) rfl
theorem mV_yX7_pair : Cond.selects RX7 yX7_pair yX7_pair ∈ zTbl := zin2 (List.mem_of_getElem? (i := 41) rfl) rfl
theorem mC_yX7_pair : Cond.code yX7_pair prog_1_method_9_code 3 (Option.some Jvm.ClassFile.FieldType.int) ∈ zTbl := zin2 (List.mem_of_getElem? (i := 42) rfl) rfl
theorem mMX7_112 : Cond.methodLink RX7 112 yX5_hasOrNone ∈ zTbl := zin2 (List.mem_of_getElem? (i := 43) rfl) rfl
theorem mI_yX5_hasOrNone : Cond.instanceMethod yX5_hasOrNone ∈ zTbl := zin2 (List.mem_of_getElem? (i := 44) rfl) rfl
theorem mV_yX5_hasOrNone : Cond.selects RX5 yX5_hasOrNone yX5_hasOrNone ∈ zTbl := zin2 (List.mem_of_getElem? (i := 45) rfl) rfl
theorem mC_yX5_hasOrNone : Cond.code yX5_hasOrNone prog_7_method_4_code 2 (Option.some Jvm.ClassFile.FieldType.boolean) ∈ zTbl := zin2 (List.mem_of_getElem? (i := 46) rfl) rfl
theorem mML_52 : Cond.methodLink RL 52 yX7_row ∈ zTbl := zin2 (List.mem_of_getElem? (i := 47) rfl) rfl
theorem mI_yX7_row : Cond.instanceMethod yX7_row ∈ zTbl := zin2 (List.mem_of_getElem? (i := 48) rfl) rfl
theorem mV_yX7_row : Cond.selects RX7 yX7_row yX7_row ∈ zTbl := zin2 (List.mem_of_getElem? (i := 49) rfl) rfl
theorem mC_yX7_row : Cond.code yX7_row prog_1_method_10_code 4 (Option.some Jvm.ClassFile.FieldType.int) ∈ zTbl := zin2 (List.mem_of_getElem? (i := 50) rfl) rfl
theorem mMX7_116 : Cond.methodLink RX7 116 yX7_numberAt ∈ zTbl := zin2 (List.mem_of_getElem? (i := 51) rfl) rfl
theorem mI_yX7_numberAt : Cond.instanceMethod yX7_numberAt ∈ zTbl := zin2 (List.mem_of_getElem? (i := 53) rfl) rfl
theorem mC_yX7_numberAt : Cond.code yX7_numberAt prog_1_method_38_code 2 (Option.some Jvm.ClassFile.FieldType.int) ∈ zTbl := zin2 (List.mem_of_getElem? (i := 54) rfl) rfl
theorem mMX7_120 : Cond.methodLink RX7 120 yX7_rowParts ∈ zTbl := zin2 (List.mem_of_getElem? (i := 55) rfl) rfl
theorem mI_yX7_rowParts : Cond.instanceMethod yX7_rowParts ∈ zTbl := zin2 (List.mem_of_getElem? (i := 57) rfl) rfl
theorem mC_yX7_rowParts : Cond.code yX7_rowParts prog_1_method_39_code 6 (Option.some (Jvm.ClassFile.FieldType.array Jvm.ClassFile.FieldType.long)) ∈ zTbl := zin2 (List.mem_of_getElem? (i := 58) rfl) rfl
theorem mML_56 : Cond.methodLink RL 56 yX7_shelf ∈ zTbl := zin2 (List.mem_of_getElem? (i := 59) rfl) rfl
theorem mI_yX7_shelf : Cond.instanceMethod yX7_shelf ∈ zTbl := zin2 (List.mem_of_getElem? (i := 60) rfl) rfl
theorem mV_yX7_shelf : Cond.selects RX7 yX7_shelf yX7_shelf ∈ zTbl := zin2 (List.mem_of_getElem? (i := 61) rfl) rfl
theorem mC_yX7_shelf : Cond.code yX7_shelf prog_1_method_11_code 5 (Option.some Jvm.ClassFile.FieldType.int) ∈ zTbl := zin2 (List.mem_of_getElem? (i := 62) rfl) rfl
theorem mKX7_124 : Cond.constantLong RX7 124 (-1) ∈ zTbl := zin2 (List.mem_of_getElem? (i := 63) rfl) rfl
theorem mML_61 : Cond.methodLink RL 61 yX7_set ∈ zTbl := zin2 (List.mem_of_getElem? (i := 64) rfl) rfl
theorem mI_yX7_set : Cond.instanceMethod yX7_set ∈ zTbl := zin2 (List.mem_of_getElem? (i := 65) rfl) rfl
theorem mV_yX7_set : Cond.selects RX7 yX7_set yX7_set ∈ zTbl := zin2 (List.mem_of_getElem? (i := 66) rfl) rfl
theorem mC_yX7_set : Cond.code yX7_set prog_1_method_12_code 6 (Option.some Jvm.ClassFile.FieldType.int) ∈ zTbl := zin2 (List.mem_of_getElem? (i := 67) rfl) rfl
theorem mMX7_130 : Cond.methodLink RX7 130 yX5_find ∈ zTbl := zin2 (List.mem_of_getElem? (i := 68) rfl) rfl
theorem mMX7_137 : Cond.methodLink RX7 137 yX4_isOf ∈ zTbl := zin2 (List.mem_of_getElem? (i := 69) rfl) rfl
theorem mI_yX4_isOf : Cond.instanceMethod yX4_isOf ∈ zTbl := zin2 (List.mem_of_getElem? (i := 70) rfl) rfl
theorem mV_yX4_isOf : Cond.selects RX4 yX4_isOf yX4_isOf ∈ zTbl := zin2 (List.mem_of_getElem? (i := 71) rfl) rfl
theorem mC_yX4_isOf : Cond.code yX4_isOf prog_6_method_2_code 2 (Option.some Jvm.ClassFile.FieldType.boolean) ∈ zTbl := zin2 (List.mem_of_getElem? (i := 72) rfl) rfl
theorem mMX7_140 : Cond.methodLink RX7 140 yX2_inNoPart ∈ zTbl := zin2 (List.mem_of_getElem? (i := 73) rfl) rfl
theorem mI_yX2_inNoPart : Cond.instanceMethod yX2_inNoPart ∈ zTbl := zin2 (List.mem_of_getElem? (i := 74) rfl) rfl
theorem mV_yX2_inNoPart : Cond.selects RX2 yX2_inNoPart yX2_inNoPart ∈ zTbl := zin2 (List.mem_of_getElem? (i := 75) rfl) rfl
theorem mC_yX2_inNoPart : Cond.code yX2_inNoPart prog_4_method_4_code 2 (Option.some Jvm.ClassFile.FieldType.int) ∈ zTbl := zin2 (List.mem_of_getElem? (i := 76) rfl) rfl
theorem mMX7_143 : Cond.methodLink RX7 143 yX4_hasPlace ∈ zTbl := zin2 (List.mem_of_getElem? (i := 77) rfl) rfl
theorem mI_yX4_hasPlace : Cond.instanceMethod yX4_hasPlace ∈ zTbl := zin2 (List.mem_of_getElem? (i := 78) rfl) rfl
theorem mV_yX4_hasPlace : Cond.selects RX4 yX4_hasPlace yX4_hasPlace ∈ zTbl := zin2 (List.mem_of_getElem? (i := 79) rfl) rfl
theorem mC_yX4_hasPlace : Cond.code yX4_hasPlace prog_6_method_4_code 2 (Option.some Jvm.ClassFile.FieldType.boolean) ∈ zTbl := zin2 (List.mem_of_getElem? (i := 80) rfl) rfl
theorem mMX7_146 : Cond.methodLink RX7 146 yX4_hold ∈ zTbl := zin2 (List.mem_of_getElem? (i := 81) rfl) rfl
theorem mI_yX4_hold : Cond.instanceMethod yX4_hold ∈ zTbl := zin2 (List.mem_of_getElem? (i := 82) rfl) rfl
theorem mV_yX4_hold : Cond.selects RX4 yX4_hold yX4_hold ∈ zTbl := zin2 (List.mem_of_getElem? (i := 83) rfl) rfl
theorem mC_yX4_hold : Cond.code yX4_hold prog_6_method_5_code 3 (Option.none : Option Jvm.ClassFile.FieldType) ∈ zTbl := zin2 (List.mem_of_getElem? (i := 84) rfl) rfl
theorem mKX4_36 : Cond.constantLong RX4 36 (-1) ∈ zTbl := zin2 (List.mem_of_getElem? (i := 85) rfl) rfl
theorem mML_65 : Cond.methodLink RL 65 yX7_at ∈ zTbl := zin2 (List.mem_of_getElem? (i := 86) rfl) rfl
theorem mI_yX7_at : Cond.instanceMethod yX7_at ∈ zTbl := zin2 (List.mem_of_getElem? (i := 87) rfl) rfl
theorem mV_yX7_at : Cond.selects RX7 yX7_at yX7_at ∈ zTbl := zin2 (List.mem_of_getElem? (i := 88) rfl) rfl
theorem mC_yX7_at : Cond.code yX7_at prog_1_method_13_code 4 (Option.some Jvm.ClassFile.FieldType.int) ∈ zTbl := zin2 (List.mem_of_getElem? (i := 89) rfl) rfl
theorem mML_69 : Cond.methodLink RL 69 yX7_kind ∈ zTbl := zin2 (List.mem_of_getElem? (i := 90) rfl) rfl
theorem mI_yX7_kind : Cond.instanceMethod yX7_kind ∈ zTbl := zin2 (List.mem_of_getElem? (i := 91) rfl) rfl
theorem mV_yX7_kind : Cond.selects RX7 yX7_kind yX7_kind ∈ zTbl := zin2 (List.mem_of_getElem? (i := 92) rfl) rfl
theorem mC_yX7_kind : Cond.code yX7_kind prog_1_method_14_code 3 (Option.some Jvm.ClassFile.FieldType.int) ∈ zTbl := zin2 (List.mem_of_getElem? (i := 93) rfl) rfl
theorem mML_73 : Cond.methodLink RL 73 yX7_parts ∈ zTbl := zin2 (List.mem_of_getElem? (i := 94) rfl) rfl
theorem mI_yX7_parts : Cond.instanceMethod yX7_parts ∈ zTbl := zin2 (List.mem_of_getElem? (i := 95) rfl) rfl
theorem mV_yX7_parts : Cond.selects RX7 yX7_parts yX7_parts ∈ zTbl := zin2 (List.mem_of_getElem? (i := 96) rfl) rfl
theorem mC_yX7_parts : Cond.code yX7_parts prog_1_method_15_code 3 (Option.some Jvm.ClassFile.FieldType.int) ∈ zTbl := zin2 (List.mem_of_getElem? (i := 97) rfl) rfl
theorem mML_77 : Cond.methodLink RL 77 yX7_part ∈ zTbl := zin2 (List.mem_of_getElem? (i := 98) rfl) rfl
theorem mI_yX7_part : Cond.instanceMethod yX7_part ∈ zTbl := zin2 (List.mem_of_getElem? (i := 99) rfl) rfl
theorem mV_yX7_part : Cond.selects RX7 yX7_part yX7_part ∈ zTbl := zin2 (List.mem_of_getElem? (i := 100) rfl) rfl
theorem mC_yX7_part : Cond.code yX7_part prog_1_method_16_code 4 (Option.some Jvm.ClassFile.FieldType.long) ∈ zTbl := zin2 (List.mem_of_getElem? (i := 101) rfl) rfl
theorem mKX7_154 : Cond.constantLong RX7 154 (-3000000000000000000) ∈ zTbl := zin2 (List.mem_of_getElem? (i := 102) rfl) rfl
theorem mML_82 : Cond.methodLink RL 82 yX7_weight ∈ zTbl := zin2 (List.mem_of_getElem? (i := 103) rfl) rfl
theorem mI_yX7_weight : Cond.instanceMethod yX7_weight ∈ zTbl := zin2 (List.mem_of_getElem? (i := 104) rfl) rfl
theorem mV_yX7_weight : Cond.selects RX7 yX7_weight yX7_weight ∈ zTbl := zin2 (List.mem_of_getElem? (i := 105) rfl) rfl
theorem mC_yX7_weight : Cond.code yX7_weight prog_1_method_17_code 4 (Option.some Jvm.ClassFile.FieldType.long) ∈ zTbl := zin2 (List.mem_of_getElem? (i := 106) rfl) rfl
theorem mMX7_156 : Cond.methodLink RX7 156 yX5_weighPairs ∈ zTbl := zin2 (List.mem_of_getElem? (i := 107) rfl) rfl
theorem mI_yX5_weighPairs : Cond.instanceMethod yX5_weighPairs ∈ zTbl := zin2 (List.mem_of_getElem? (i := 108) rfl) rfl
theorem mV_yX5_weighPairs : Cond.selects RX5 yX5_weighPairs yX5_weighPairs ∈ zTbl := zin2 (List.mem_of_getElem? (i := 109) rfl) rfl
theorem mC_yX5_weighPairs : Cond.code yX5_weighPairs prog_7_method_6_code 5 (Option.none : Option Jvm.ClassFile.FieldType) ∈ zTbl := zin2 (List.mem_of_getElem? (i := 110) rfl) rfl
theorem mMX5_49 : Cond.methodLink RX5 49 yX4_heavyWeight ∈ zTbl := zin2 (List.mem_of_getElem? (i := 111) rfl) rfl
theorem mI_yX4_heavyWeight : Cond.instanceMethod yX4_heavyWeight ∈ zTbl := zin2 (List.mem_of_getElem? (i := 112) rfl) rfl
theorem mV_yX4_heavyWeight : Cond.selects RX4 yX4_heavyWeight yX4_heavyWeight ∈ zTbl := zin2 (List.mem_of_getElem? (i := 113) rfl) rfl
theorem mC_yX4_heavyWeight : Cond.code yX4_heavyWeight prog_6_method_6_code 3 (Option.some Jvm.ClassFile.FieldType.long) ∈ zTbl := zin2 (List.mem_of_getElem? (i := 114) rfl) rfl
theorem mKX4_38 : Cond.constantLong RX4 38 (2) ∈ zTbl := zin2 (List.mem_of_getElem? (i := 115) rfl) rfl
theorem mMX4_40 : Cond.methodLink RX4 40 yX4_isOf ∈ zTbl := zin2 (List.mem_of_getElem? (i := 116) rfl) rfl
theorem mKX4_44 : Cond.constantLong RX4 44 (3) ∈ zTbl := zin2 (List.mem_of_getElem? (i := 117) rfl) rfl
theorem mMX7_159 : Cond.methodLink RX7 159 yX4_heavyWeight ∈ zTbl := zin2 (List.mem_of_getElem? (i := 118) rfl) rfl
theorem mML_87 : Cond.methodLink RL 87 yX7_equal ∈ zTbl := zin2 (List.mem_of_getElem? (i := 119) rfl) rfl
theorem mI_yX7_equal : Cond.instanceMethod yX7_equal ∈ zTbl := zin2 (List.mem_of_getElem? (i := 120) rfl) rfl
theorem mV_yX7_equal : Cond.selects RX7 yX7_equal yX7_equal ∈ zTbl := zin2 (List.mem_of_getElem? (i := 121) rfl) rfl
theorem mC_yX7_equal : Cond.code yX7_equal prog_1_method_18_code 5 (Option.some Jvm.ClassFile.FieldType.int) ∈ zTbl := zin2 (List.mem_of_getElem? (i := 122) rfl) rfl
theorem mMX7_166 : Cond.methodLink RX7 166 yX4_isLike ∈ zTbl := zin2 (List.mem_of_getElem? (i := 123) rfl) rfl
theorem mI_yX4_isLike : Cond.instanceMethod yX4_isLike ∈ zTbl := zin2 (List.mem_of_getElem? (i := 124) rfl) rfl
theorem mV_yX4_isLike : Cond.selects RX4 yX4_isLike yX4_isLike ∈ zTbl := zin2 (List.mem_of_getElem? (i := 125) rfl) rfl
theorem mC_yX4_isLike : Cond.code yX4_isLike prog_6_method_3_code 2 (Option.some Jvm.ClassFile.FieldType.boolean) ∈ zTbl := zin2 (List.mem_of_getElem? (i := 126) rfl) rfl
theorem mML_91 : Cond.methodLink RL 91 yX7_hash ∈ zTbl := zin2 (List.mem_of_getElem? (i := 127) rfl) rfl
theorem mI_yX7_hash : Cond.instanceMethod yX7_hash ∈ zTbl := zin2 (List.mem_of_getElem? (i := 128) rfl) rfl
theorem mV_yX7_hash : Cond.selects RX7 yX7_hash yX7_hash ∈ zTbl := zin2 (List.mem_of_getElem? (i := 129) rfl) rfl
theorem mC_yX7_hash : Cond.code yX7_hash prog_1_method_19_code 3 (Option.some Jvm.ClassFile.FieldType.int) ∈ zTbl := zin2 (List.mem_of_getElem? (i := 130) rfl) rfl
theorem mML_95 : Cond.methodLink RL 95 yX7_order ∈ zTbl := zin2 (List.mem_of_getElem? (i := 131) rfl) rfl
theorem mI_yX7_order : Cond.instanceMethod yX7_order ∈ zTbl := zin2 (List.mem_of_getElem? (i := 132) rfl) rfl
theorem mV_yX7_order : Cond.selects RX7 yX7_order yX7_order ∈ zTbl := zin2 (List.mem_of_getElem? (i := 133) rfl) rfl
theorem mC_yX7_order : Cond.code yX7_order prog_1_method_20_code 5 (Option.some Jvm.ClassFile.FieldType.int) ∈ zTbl := zin2 (List.mem_of_getElem? (i := 134) rfl) rfl
theorem mMX7_176 : Cond.methodLink RX7 176 yJ6_compare_7cf53 ∈ zTbl := zin2 (List.mem_of_getElem? (i := 135) rfl) rfl
theorem mML_99 : Cond.methodLink RL 99 yX7_ranked ∈ zTbl := zin2 (List.mem_of_getElem? (i := 136) rfl) rfl
theorem mI_yX7_ranked : Cond.instanceMethod yX7_ranked ∈ zTbl := zin2 (List.mem_of_getElem? (i := 137) rfl) rfl
theorem mV_yX7_ranked : Cond.selects RX7 yX7_ranked yX7_ranked ∈ zTbl := zin2 (List.mem_of_getElem? (i := 138) rfl) rfl
theorem mC_yX7_ranked : Cond.code yX7_ranked prog_1_method_21_code 2 (Option.some Jvm.ClassFile.FieldType.int) ∈ zTbl := zin2 (List.mem_of_getElem? (i := 139) rfl) rfl
theorem mMX7_181 : Cond.methodLink RX7 181 yX5_numberRanked ∈ zTbl := zin2 (List.mem_of_getElem? (i := 140) rfl) rfl
theorem mI_yX5_numberRanked : Cond.instanceMethod yX5_numberRanked ∈ zTbl := zin2 (List.mem_of_getElem? (i := 141) rfl) rfl
theorem mV_yX5_numberRanked : Cond.selects RX5 yX5_numberRanked yX5_numberRanked ∈ zTbl := zin2 (List.mem_of_getElem? (i := 142) rfl) rfl
theorem mC_yX5_numberRanked : Cond.code yX5_numberRanked prog_7_method_7_code 2 (Option.some Jvm.ClassFile.FieldType.int) ∈ zTbl := zin2 (List.mem_of_getElem? (i := 143) rfl) rfl
theorem mML_103 : Cond.methodLink RL 103 yX7_first ∈ zTbl := zin2 (List.mem_of_getElem? (i := 144) rfl) rfl
theorem mI_yX7_first : Cond.instanceMethod yX7_first ∈ zTbl := zin2 (List.mem_of_getElem? (i := 145) rfl) rfl
theorem mV_yX7_first : Cond.selects RX7 yX7_first yX7_first ∈ zTbl := zin2 (List.mem_of_getElem? (i := 146) rfl) rfl
theorem mC_yX7_first : Cond.code yX7_first prog_1_method_22_code 3 (Option.some Jvm.ClassFile.FieldType.int) ∈ zTbl := zin2 (List.mem_of_getElem? (i := 147) rfl) rfl
theorem mMX7_184 : Cond.methodLink RX7 184 yX5_firstLike ∈ zTbl := zin2 (List.mem_of_getElem? (i := 148) rfl) rfl
theorem mI_yX5_firstLike : Cond.instanceMethod yX5_firstLike ∈ zTbl := zin2 (List.mem_of_getElem? (i := 149) rfl) rfl
theorem mV_yX5_firstLike : Cond.selects RX5 yX5_firstLike yX5_firstLike ∈ zTbl := zin2 (List.mem_of_getElem? (i := 150) rfl) rfl
theorem mC_yX5_firstLike : Cond.code yX5_firstLike prog_7_method_8_code 3 (Option.some Jvm.ClassFile.FieldType.int) ∈ zTbl := zin2 (List.mem_of_getElem? (i := 151) rfl) rfl
theorem mMX5_57 : Cond.methodLink RX5 57 yX4_isLike ∈ zTbl := zin2 (List.mem_of_getElem? (i := 152) rfl) rfl
theorem mML_107 : Cond.methodLink RL 107 yX7_family ∈ zTbl := zin2 (List.mem_of_getElem? (i := 153) rfl) rfl
theorem mI_yX7_family : Cond.instanceMethod yX7_family ∈ zTbl := zin2 (List.mem_of_getElem? (i := 154) rfl) rfl
theorem mV_yX7_family : Cond.selects RX7 yX7_family yX7_family ∈ zTbl := zin2 (List.mem_of_getElem? (i := 155) rfl) rfl
theorem mC_yX7_family : Cond.code yX7_family prog_1_method_23_code 6 (Option.some Jvm.ClassFile.FieldType.int) ∈ zTbl := zin2 (List.mem_of_getElem? (i := 156) rfl) rfl
theorem mMX7_187 : Cond.methodLink RX7 187 yX7_areKindsOnce ∈ zTbl := zin2 (List.mem_of_getElem? (i := 157) rfl) rfl
theorem mS_yX7_areKindsOnce : Cond.static yX7_areKindsOnce ∈ zTbl := zin2 (List.mem_of_getElem? (i := 158) rfl) rfl
theorem mC_yX7_areKindsOnce : Cond.code yX7_areKindsOnce prog_1_method_40_code 6 (Option.some Jvm.ClassFile.FieldType.boolean) ∈ zTbl := zin2 (List.mem_of_getElem? (i := 159) rfl) rfl
theorem mIa_RX3 : Cond.instantiable RX3 2 ∈ zTbl := zin2 (List.mem_of_getElem? (i := 160) rfl) rfl
theorem mMX7_191 : Cond.methodLink RX7 191 yX3_init ∈ zTbl := zin2 (List.mem_of_getElem? (i := 161) rfl) rfl
theorem mI_yX3_init : Cond.instanceMethod yX3_init ∈ zTbl := zin2 (List.mem_of_getElem? (i := 162) rfl) rfl
theorem mC_yX3_init : Cond.code yX3_init prog_5_method_1_code 3 (Option.none : Option Jvm.ClassFile.FieldType) ∈ zTbl := zin2 (List.mem_of_getElem? (i := 163) rfl) rfl
theorem mMX3_3 : Cond.methodLink RX3 3 Lib.objectInit ∈ zTbl := zin2 (List.mem_of_getElem? (i := 164) rfl) rfl
theorem mFX3_11 : Cond.fieldLink RX3 11 (TX3 0).1 (TX3 0).2.1 (TX3 0).2.2.1 ∈ zTbl := zin2 (List.mem_of_getElem? (i := 165) rfl) rfl
theorem mFX3_15 : Cond.fieldLink RX3 15 (TX3 1).1 (TX3 1).2.1 (TX3 1).2.2.1 ∈ zTbl := zin2 (List.mem_of_getElem? (i := 166) rfl) rfl
theorem mML_112 : Cond.methodLink RL 112 yX7_tag ∈ zTbl := zin2 (List.mem_of_getElem? (i := 172) rfl) rfl
theorem mI_yX7_tag : Cond.instanceMethod yX7_tag ∈ zTbl := zin2 (List.mem_of_getElem? (i := 173) rfl) rfl
theorem mV_yX7_tag : Cond.selects RX7 yX7_tag yX7_tag ∈ zTbl := zin2 (List.mem_of_getElem? (i := 174) rfl) rfl
theorem mC_yX7_tag : Cond.code yX7_tag prog_1_method_24_code 5 (Option.some Jvm.ClassFile.FieldType.int) ∈ zTbl := zin2 (List.mem_of_getElem? (i := 175) rfl) rfl
theorem mMX7_194 : Cond.methodLink RX7 194 yX7_findFamily ∈ zTbl := zin2 (List.mem_of_getElem? (i := 176) rfl) rfl
theorem mI_yX7_findFamily : Cond.instanceMethod yX7_findFamily ∈ zTbl := zin2 (List.mem_of_getElem? (i := 178) rfl) rfl
theorem mC_yX7_findFamily : Cond.code yX7_findFamily prog_1_method_41_code 2 (Option.some (Jvm.ClassFile.FieldType.object "KindRows$Family")) ∈ zTbl := zin2 (List.mem_of_getElem? (i := 179) rfl) rfl
theorem mMX7_198 : Cond.methodLink RX7 198 yX3_tagOf ∈ zTbl := zin2 (List.mem_of_getElem? (i := 180) rfl) rfl
theorem mI_yX3_tagOf : Cond.instanceMethod yX3_tagOf ∈ zTbl := zin2 (List.mem_of_getElem? (i := 181) rfl) rfl
theorem mV_yX3_tagOf : Cond.selects RX3 yX3_tagOf yX3_tagOf ∈ zTbl := zin2 (List.mem_of_getElem? (i := 182) rfl) rfl
theorem mC_yX3_tagOf : Cond.code yX3_tagOf prog_5_method_2_code 4 (Option.some Jvm.ClassFile.FieldType.int) ∈ zTbl := zin2 (List.mem_of_getElem? (i := 183) rfl) rfl
theorem mMX3_24 : Cond.methodLink RX3 24 yX4_isOf ∈ zTbl := zin2 (List.mem_of_getElem? (i := 184) rfl) rfl
theorem mML_116 : Cond.methodLink RL 116 yX7_tagged ∈ zTbl := zin2 (List.mem_of_getElem? (i := 185) rfl) rfl
theorem mI_yX7_tagged : Cond.instanceMethod yX7_tagged ∈ zTbl := zin2 (List.mem_of_getElem? (i := 186) rfl) rfl
theorem mV_yX7_tagged : Cond.selects RX7 yX7_tagged yX7_tagged ∈ zTbl := zin2 (List.mem_of_getElem? (i := 187) rfl) rfl
theorem mC_yX7_tagged : Cond.code yX7_tagged prog_1_method_25_code 7 (Option.some Jvm.ClassFile.FieldType.int) ∈ zTbl := zin2 (List.mem_of_getElem? (i := 188) rfl) rfl
theorem mML_120 : Cond.methodLink RL 120 yX7_constant ∈ zTbl := zin2 (List.mem_of_getElem? (i := 189) rfl) rfl
theorem mI_yX7_constant : Cond.instanceMethod yX7_constant ∈ zTbl := zin2 (List.mem_of_getElem? (i := 190) rfl) rfl
theorem mV_yX7_constant : Cond.selects RX7 yX7_constant yX7_constant ∈ zTbl := zin2 (List.mem_of_getElem? (i := 191) rfl) rfl
theorem mC_yX7_constant : Cond.code yX7_constant prog_1_method_26_code 5 (Option.some Jvm.ClassFile.FieldType.int) ∈ zTbl := zin2 (List.mem_of_getElem? (i := 192) rfl) rfl
theorem mMX7_204 : Cond.methodLink RX7 204 yX7_findEnumeration ∈ zTbl := zin2 (List.mem_of_getElem? (i := 193) rfl) rfl
theorem mI_yX7_findEnumeration : Cond.instanceMethod yX7_findEnumeration ∈ zTbl := zin2 (List.mem_of_getElem? (i := 195) rfl) rfl
theorem mC_yX7_findEnumeration : Cond.code yX7_findEnumeration prog_1_method_43_code 2 (Option.some (Jvm.ClassFile.FieldType.object "KindRows$Enumeration")) ∈ zTbl := zin2 (List.mem_of_getElem? (i := 196) rfl) rfl
theorem mMX7_208 : Cond.methodLink RX7 208 yX7_memberNamed ∈ zTbl := zin2 (List.mem_of_getElem? (i := 197) rfl) rfl
theorem mI_yX7_memberNamed : Cond.instanceMethod yX7_memberNamed ∈ zTbl := zin2 (List.mem_of_getElem? (i := 199) rfl) rfl
theorem mC_yX7_memberNamed : Cond.code yX7_memberNamed prog_1_method_45_code 5 (Option.some Jvm.ClassFile.FieldType.int) ∈ zTbl := zin2 (List.mem_of_getElem? (i := 200) rfl) rfl
theorem mMX7_238 : Cond.methodLink RX7 238 yX7_findConstant ∈ zTbl := zin2 (List.mem_of_getElem? (i := 201) rfl) rfl
theorem mI_yX7_findConstant : Cond.instanceMethod yX7_findConstant ∈ zTbl := zin2 (List.mem_of_getElem? (i := 203) rfl) rfl
theorem mC_yX7_findConstant : Cond.code yX7_findConstant prog_1_method_42_code 2 (Option.some (Jvm.ClassFile.FieldType.object "KindRows$Constant")) ∈ zTbl := zin2 (List.mem_of_getElem? (i := 204) rfl) rfl
theorem mIa_RX0 : Cond.instantiable RX0 2 ∈ zTbl := zin2 (List.mem_of_getElem? (i := 205) rfl) rfl
theorem mMX7_212 : Cond.methodLink RX7 212 yX0_init ∈ zTbl := zin2 (List.mem_of_getElem? (i := 206) rfl) rfl
theorem mI_yX0_init : Cond.instanceMethod yX0_init ∈ zTbl := zin2 (List.mem_of_getElem? (i := 207) rfl) rfl
theorem mC_yX0_init : Cond.code yX0_init prog_2_method_1_code 3 (Option.none : Option Jvm.ClassFile.FieldType) ∈ zTbl := zin2 (List.mem_of_getElem? (i := 208) rfl) rfl
theorem mMX0_1 : Cond.methodLink RX0 1 Lib.objectInit ∈ zTbl := zin2 (List.mem_of_getElem? (i := 209) rfl) rfl
theorem mFX0_7 : Cond.fieldLink RX0 7 (TX0 0).1 (TX0 0).2.1 (TX0 0).2.2.1 ∈ zTbl := zin2 (List.mem_of_getElem? (i := 210) rfl) rfl
theorem mFNX7_242 : Cond.fieldLinkNest RX7 242 (TX0 0).1 (TX0 0).2.1 (TX0 0).2.2.1 "KindRows" ∈ zTbl := zin2 (List.mem_of_getElem? (i := 211) rfl) rfl
theorem mFX0_13 : Cond.fieldLink RX0 13 (TX0 1).1 (TX0 1).2.1 (TX0 1).2.2.1 ∈ zTbl := zin2 (List.mem_of_getElem? (i := 212) rfl) rfl
theorem mFNX7_245 : Cond.fieldLinkNest RX7 245 (TX0 1).1 (TX0 1).2.1 (TX0 1).2.2.1 "KindRows" ∈ zTbl := zin2 (List.mem_of_getElem? (i := 213) rfl) rfl
theorem mMX7_214 : Cond.methodLink RX7 214 yX1_append ∈ zTbl := zin2 (List.mem_of_getElem? (i := 219) rfl) rfl
theorem mI_yX1_append : Cond.instanceMethod yX1_append ∈ zTbl := zin2 (List.mem_of_getElem? (i := 220) rfl) rfl
theorem mV_yX1_append : Cond.selects RX1 yX1_append yX1_append ∈ zTbl := zin2 (List.mem_of_getElem? (i := 221) rfl) rfl
theorem mC_yX1_append : Cond.code yX1_append prog_3_method_2_code 2 (Option.none : Option Jvm.ClassFile.FieldType) ∈ zTbl := zin2 (List.mem_of_getElem? (i := 222) rfl) rfl
theorem mML_124 : Cond.methodLink RL 124 yX7_named ∈ zTbl := zin2 (List.mem_of_getElem? (i := 223) rfl) rfl
theorem mI_yX7_named : Cond.instanceMethod yX7_named ∈ zTbl := zin2 (List.mem_of_getElem? (i := 224) rfl) rfl
theorem mV_yX7_named : Cond.selects RX7 yX7_named yX7_named ∈ zTbl := zin2 (List.mem_of_getElem? (i := 225) rfl) rfl
theorem mC_yX7_named : Cond.code yX7_named prog_1_method_27_code 5 (Option.some Jvm.ClassFile.FieldType.int) ∈ zTbl := zin2 (List.mem_of_getElem? (i := 226) rfl) rfl
theorem mML_128 : Cond.methodLink RL 128 yX7_drop ∈ zTbl := zin2 (List.mem_of_getElem? (i := 227) rfl) rfl
theorem mI_yX7_drop : Cond.instanceMethod yX7_drop ∈ zTbl := zin2 (List.mem_of_getElem? (i := 228) rfl) rfl
theorem mV_yX7_drop : Cond.selects RX7 yX7_drop yX7_drop ∈ zTbl := zin2 (List.mem_of_getElem? (i := 229) rfl) rfl
theorem mC_yX7_drop : Cond.code yX7_drop prog_1_method_28_code 4 (Option.some Jvm.ClassFile.FieldType.int) ∈ zTbl := zin2 (List.mem_of_getElem? (i := 230) rfl) rfl
theorem mMX7_218 : Cond.methodLink RX7 218 yX7_homeOf ∈ zTbl := zin2 (List.mem_of_getElem? (i := 231) rfl) rfl
theorem mI_yX7_homeOf : Cond.instanceMethod yX7_homeOf ∈ zTbl := zin2 (List.mem_of_getElem? (i := 233) rfl) rfl
theorem mC_yX7_homeOf : Cond.code yX7_homeOf prog_1_method_44_code 3 (Option.some (Jvm.ClassFile.FieldType.object "KindRows$Enumeration")) ∈ zTbl := zin2 (List.mem_of_getElem? (i := 234) rfl) rfl
theorem mMX7_221 : Cond.methodLink RX7 221 yX1_placeOf ∈ zTbl := zin2 (List.mem_of_getElem? (i := 235) rfl) rfl
theorem mI_yX1_placeOf : Cond.instanceMethod yX1_placeOf ∈ zTbl := zin2 (List.mem_of_getElem? (i := 236) rfl) rfl
theorem mV_yX1_placeOf : Cond.selects RX1 yX1_placeOf yX1_placeOf ∈ zTbl := zin2 (List.mem_of_getElem? (i := 237) rfl) rfl
theorem mC_yX1_placeOf : Cond.code yX1_placeOf prog_3_method_4_code 3 (Option.some Jvm.ClassFile.FieldType.int) ∈ zTbl := zin2 (List.mem_of_getElem? (i := 238) rfl) rfl
theorem mMX7_224 : Cond.methodLink RX7 224 yX1_remove ∈ zTbl := zin2 (List.mem_of_getElem? (i := 239) rfl) rfl
theorem mI_yX1_remove : Cond.instanceMethod yX1_remove ∈ zTbl := zin3 (List.mem_of_getElem? (i := 0) rfl) rfl
theorem mV_yX1_remove : Cond.selects RX1 yX1_remove yX1_remove ∈ zTbl := zin3 (List.mem_of_getElem? (i := 1) rfl) rfl
theorem mC_yX1_remove : Cond.code yX1_remove prog_3_method_3_code 3 (Option.none : Option Jvm.ClassFile.FieldType) ∈ zTbl := zin3 (List.mem_of_getElem? (i := 2) rfl) rfl
theorem mML_132 : Cond.methodLink RL 132 yX7_reorder ∈ zTbl := zin3 (List.mem_of_getElem? (i := 3) rfl) rfl
theorem mI_yX7_reorder : Cond.instanceMethod yX7_reorder ∈ zTbl := zin3 (List.mem_of_getElem? (i := 4) rfl) rfl
theorem mV_yX7_reorder : Cond.selects RX7 yX7_reorder yX7_reorder ∈ zTbl := zin3 (List.mem_of_getElem? (i := 5) rfl) rfl
theorem mC_yX7_reorder : Cond.code yX7_reorder prog_1_method_29_code 4 (Option.some Jvm.ClassFile.FieldType.int) ∈ zTbl := zin3 (List.mem_of_getElem? (i := 6) rfl) rfl
theorem mMX7_230 : Cond.methodLink RX7 230 yX7_drawBelow ∈ zTbl := zin3 (List.mem_of_getElem? (i := 7) rfl) rfl
theorem mI_yX7_drawBelow : Cond.instanceMethod yX7_drawBelow ∈ zTbl := zin3 (List.mem_of_getElem? (i := 9) rfl) rfl
theorem mC_yX7_drawBelow : Cond.code yX7_drawBelow prog_1_method_47_code 2 (Option.some Jvm.ClassFile.FieldType.int) ∈ zTbl := zin3 (List.mem_of_getElem? (i := 10) rfl) rfl
theorem mKX7_275 : Cond.constantLong RX7 275 (48271) ∈ zTbl := zin3 (List.mem_of_getElem? (i := 11) rfl) rfl
theorem mKX7_236 : Cond.constantLong RX7 236 (2147483647) ∈ zTbl := zin3 (List.mem_of_getElem? (i := 12) rfl) rfl
theorem mMX7_233 : Cond.methodLink RX7 233 yX1_exchange ∈ zTbl := zin3 (List.mem_of_getElem? (i := 13) rfl) rfl
theorem mI_yX1_exchange : Cond.instanceMethod yX1_exchange ∈ zTbl := zin3 (List.mem_of_getElem? (i := 14) rfl) rfl
theorem mV_yX1_exchange : Cond.selects RX1 yX1_exchange yX1_exchange ∈ zTbl := zin3 (List.mem_of_getElem? (i := 15) rfl) rfl
theorem mC_yX1_exchange : Cond.code yX1_exchange prog_3_method_5_code 4 (Option.none : Option Jvm.ClassFile.FieldType) ∈ zTbl := zin3 (List.mem_of_getElem? (i := 16) rfl) rfl
theorem mML_136 : Cond.methodLink RL 136 yX7_seed ∈ zTbl := zin3 (List.mem_of_getElem? (i := 17) rfl) rfl
theorem mI_yX7_seed : Cond.instanceMethod yX7_seed ∈ zTbl := zin3 (List.mem_of_getElem? (i := 18) rfl) rfl
theorem mV_yX7_seed : Cond.selects RX7 yX7_seed yX7_seed ∈ zTbl := zin3 (List.mem_of_getElem? (i := 19) rfl) rfl
theorem mC_yX7_seed : Cond.code yX7_seed prog_1_method_30_code 3 (Option.some Jvm.ClassFile.FieldType.int) ∈ zTbl := zin3 (List.mem_of_getElem? (i := 20) rfl) rfl
theorem mML_140 : Cond.methodLink RL 140 yX7_told ∈ zTbl := zin3 (List.mem_of_getElem? (i := 21) rfl) rfl
theorem mI_yX7_told : Cond.instanceMethod yX7_told ∈ zTbl := zin3 (List.mem_of_getElem? (i := 22) rfl) rfl
theorem mV_yX7_told : Cond.selects RX7 yX7_told yX7_told ∈ zTbl := zin3 (List.mem_of_getElem? (i := 23) rfl) rfl
theorem mC_yX7_told : Cond.code yX7_told prog_1_method_31_code 5 (Option.some Jvm.ClassFile.FieldType.int) ∈ zTbl := zin3 (List.mem_of_getElem? (i := 24) rfl) rfl
theorem mML_144 : Cond.methodLink RL 144 yX7_placed ∈ zTbl := zin3 (List.mem_of_getElem? (i := 25) rfl) rfl
theorem mI_yX7_placed : Cond.instanceMethod yX7_placed ∈ zTbl := zin3 (List.mem_of_getElem? (i := 26) rfl) rfl
theorem mV_yX7_placed : Cond.selects RX7 yX7_placed yX7_placed ∈ zTbl := zin3 (List.mem_of_getElem? (i := 27) rfl) rfl
theorem mC_yX7_placed : Cond.code yX7_placed prog_1_method_32_code 4 (Option.some Jvm.ClassFile.FieldType.int) ∈ zTbl := zin3 (List.mem_of_getElem? (i := 28) rfl) rfl
theorem mML_148 : Cond.methodLink RL 148 yX7_put ∈ zTbl := zin3 (List.mem_of_getElem? (i := 29) rfl) rfl
theorem mI_yX7_put : Cond.instanceMethod yX7_put ∈ zTbl := zin3 (List.mem_of_getElem? (i := 30) rfl) rfl
theorem mV_yX7_put : Cond.selects RX7 yX7_put yX7_put ∈ zTbl := zin3 (List.mem_of_getElem? (i := 31) rfl) rfl
theorem mC_yX7_put : Cond.code yX7_put prog_1_method_33_code 4 (Option.some Jvm.ClassFile.FieldType.int) ∈ zTbl := zin3 (List.mem_of_getElem? (i := 32) rfl) rfl
theorem mMX7_251 : Cond.methodLink RX7 251 yX7_keyOf ∈ zTbl := zin3 (List.mem_of_getElem? (i := 33) rfl) rfl
theorem mS_yX7_keyOf : Cond.static yX7_keyOf ∈ zTbl := zin3 (List.mem_of_getElem? (i := 34) rfl) rfl
theorem mC_yX7_keyOf : Cond.code yX7_keyOf prog_1_method_48_code 1 (Option.some Jvm.ClassFile.FieldType.int) ∈ zTbl := zin3 (List.mem_of_getElem? (i := 35) rfl) rfl
theorem mMX7_255 : Cond.methodLink RX7 255 yX6_store ∈ zTbl := zin3 (List.mem_of_getElem? (i := 36) rfl) rfl
theorem mI_yX6_store : Cond.instanceMethod yX6_store ∈ zTbl := zin3 (List.mem_of_getElem? (i := 37) rfl) rfl
theorem mV_yX6_store : Cond.selects RX6 yX6_store yX6_store ∈ zTbl := zin3 (List.mem_of_getElem? (i := 38) rfl) rfl
theorem mC_yX6_store : Cond.code yX6_store prog_8_method_2_code 4 (Option.some Jvm.ClassFile.FieldType.int) ∈ zTbl := zin3 (List.mem_of_getElem? (i := 39) rfl) rfl
theorem mMX6_22 : Cond.methodLink RX6 22 yX6_placeOf ∈ zTbl := zin3 (List.mem_of_getElem? (i := 40) rfl) rfl
theorem mI_yX6_placeOf : Cond.instanceMethod yX6_placeOf ∈ zTbl := zin3 (List.mem_of_getElem? (i := 42) rfl) rfl
theorem mC_yX6_placeOf : Cond.code yX6_placeOf prog_8_method_4_code 3 (Option.some Jvm.ClassFile.FieldType.int) ∈ zTbl := zin3 (List.mem_of_getElem? (i := 43) rfl) rfl
theorem mML_152 : Cond.methodLink RL 152 yX7_get ∈ zTbl := zin3 (List.mem_of_getElem? (i := 44) rfl) rfl
theorem mI_yX7_get : Cond.instanceMethod yX7_get ∈ zTbl := zin3 (List.mem_of_getElem? (i := 45) rfl) rfl
theorem mV_yX7_get : Cond.selects RX7 yX7_get yX7_get ∈ zTbl := zin3 (List.mem_of_getElem? (i := 46) rfl) rfl
theorem mC_yX7_get : Cond.code yX7_get prog_1_method_34_code 3 (Option.some Jvm.ClassFile.FieldType.int) ∈ zTbl := zin3 (List.mem_of_getElem? (i := 47) rfl) rfl
theorem mMX7_258 : Cond.methodLink RX7 258 yX6_valueOf ∈ zTbl := zin3 (List.mem_of_getElem? (i := 48) rfl) rfl
theorem mI_yX6_valueOf : Cond.instanceMethod yX6_valueOf ∈ zTbl := zin3 (List.mem_of_getElem? (i := 49) rfl) rfl
theorem mV_yX6_valueOf : Cond.selects RX6 yX6_valueOf yX6_valueOf ∈ zTbl := zin3 (List.mem_of_getElem? (i := 50) rfl) rfl
theorem mC_yX6_valueOf : Cond.code yX6_valueOf prog_8_method_3_code 3 (Option.some Jvm.ClassFile.FieldType.int) ∈ zTbl := zin3 (List.mem_of_getElem? (i := 51) rfl) rfl
theorem mML_156 : Cond.methodLink RL 156 yX7_count ∈ zTbl := zin3 (List.mem_of_getElem? (i := 52) rfl) rfl
theorem mI_yX7_count : Cond.instanceMethod yX7_count ∈ zTbl := zin3 (List.mem_of_getElem? (i := 53) rfl) rfl
theorem mV_yX7_count : Cond.selects RX7 yX7_count yX7_count ∈ zTbl := zin3 (List.mem_of_getElem? (i := 54) rfl) rfl
theorem mC_yX7_count : Cond.code yX7_count prog_1_method_35_code 2 (Option.some Jvm.ClassFile.FieldType.int) ∈ zTbl := zin3 (List.mem_of_getElem? (i := 55) rfl) rfl
theorem mMX7_261 : Cond.methodLink RX7 261 yX7_membersOfAll ∈ zTbl := zin3 (List.mem_of_getElem? (i := 56) rfl) rfl
theorem mI_yX7_membersOfAll : Cond.instanceMethod yX7_membersOfAll ∈ zTbl := zin3 (List.mem_of_getElem? (i := 58) rfl) rfl
theorem mC_yX7_membersOfAll : Cond.code yX7_membersOfAll prog_1_method_46_code 6 (Option.some Jvm.ClassFile.FieldType.int) ∈ zTbl := zin3 (List.mem_of_getElem? (i := 59) rfl) rfl
theorem mMX7_266 : Cond.methodLink RX7 266 yX2_everOf ∈ zTbl := zin3 (List.mem_of_getElem? (i := 60) rfl) rfl
theorem mI_yX2_everOf : Cond.instanceMethod yX2_everOf ∈ zTbl := zin3 (List.mem_of_getElem? (i := 61) rfl) rfl
theorem mV_yX2_everOf : Cond.selects RX2 yX2_everOf yX2_everOf ∈ zTbl := zin3 (List.mem_of_getElem? (i := 62) rfl) rfl
theorem mC_yX2_everOf : Cond.code yX2_everOf prog_4_method_6_code 2 (Option.some Jvm.ClassFile.FieldType.int) ∈ zTbl := zin3 (List.mem_of_getElem? (i := 63) rfl) rfl
theorem mLL_10 : Cond.classLink RL 10 RX8 ∈ zTbl := zin3 (List.mem_of_getElem? (i := 64) rfl) rfl
theorem mIa_RX8 : Cond.instantiable RX8 27 ∈ zTbl := zin3 (List.mem_of_getElem? (i := 65) rfl) rfl
theorem mML_12 : Cond.methodLink RL 12 yX8_init ∈ zTbl := zin3 (List.mem_of_getElem? (i := 66) rfl) rfl
theorem mI_yX8_init : Cond.instanceMethod yX8_init ∈ zTbl := zin3 (List.mem_of_getElem? (i := 67) rfl) rfl
theorem mC_yX8_init : Cond.code yX8_init prog_10_method_1_code 1 (Option.none : Option Jvm.ClassFile.FieldType) ∈ zTbl := zin3 (List.mem_of_getElem? (i := 68) rfl) rfl
theorem mMX8_1 : Cond.methodLink RX8 1 Lib.objectInit ∈ zTbl := zin3 (List.mem_of_getElem? (i := 69) rfl) rfl
theorem mFX8_74 : Cond.fieldLink RX8 74 (TX8 0).1 (TX8 0).2.1 (TX8 0).2.2.1 ∈ zTbl := zin3 (List.mem_of_getElem? (i := 70) rfl) rfl
theorem mFX8_9 : Cond.fieldLink RX8 9 (TX8 1).1 (TX8 1).2.1 (TX8 1).2.2.1 ∈ zTbl := zin3 (List.mem_of_getElem? (i := 71) rfl) rfl
theorem mFX8_77 : Cond.fieldLink RX8 77 (TX8 2).1 (TX8 2).2.1 (TX8 2).2.2.1 ∈ zTbl := zin3 (List.mem_of_getElem? (i := 72) rfl) rfl
theorem mFX8_13 : Cond.fieldLink RX8 13 (TX8 3).1 (TX8 3).2.1 (TX8 3).2.2.1 ∈ zTbl := zin3 (List.mem_of_getElem? (i := 73) rfl) rfl
theorem mFX8_80 : Cond.fieldLink RX8 80 (TX8 4).1 (TX8 4).2.1 (TX8 4).2.2.1 ∈ zTbl := zin3 (List.mem_of_getElem? (i := 74) rfl) rfl
theorem mFX8_17 : Cond.fieldLink RX8 17 (TX8 5).1 (TX8 5).2.1 (TX8 5).2.2.1 ∈ zTbl := zin3 (List.mem_of_getElem? (i := 75) rfl) rfl
theorem mFX8_83 : Cond.fieldLink RX8 83 (TX8 6).1 (TX8 6).2.1 (TX8 6).2.2.1 ∈ zTbl := zin3 (List.mem_of_getElem? (i := 76) rfl) rfl
theorem mFX8_20 : Cond.fieldLink RX8 20 (TX8 7).1 (TX8 7).2.1 (TX8 7).2.2.1 ∈ zTbl := zin3 (List.mem_of_getElem? (i := 77) rfl) rfl
theorem mFX8_23 : Cond.fieldLink RX8 23 (TX8 8).1 (TX8 8).2.1 (TX8 8).2.2.1 ∈ zTbl := zin3 (List.mem_of_getElem? (i := 78) rfl) rfl
theorem mFX8_26 : Cond.fieldLink RX8 26 (TX8 9).1 (TX8 9).2.1 (TX8 9).2.2.1 ∈ zTbl := zin3 (List.mem_of_getElem? (i := 79) rfl) rfl
theorem mFX8_30 : Cond.fieldLink RX8 30 (TX8 10).1 (TX8 10).2.1 (TX8 10).2.2.1 ∈ zTbl := zin3 (List.mem_of_getElem? (i := 80) rfl) rfl
theorem mFX8_34 : Cond.fieldLink RX8 34 (TX8 11).1 (TX8 11).2.1 (TX8 11).2.2.1 ∈ zTbl := zin3 (List.mem_of_getElem? (i := 81) rfl) rfl
theorem mFX8_37 : Cond.fieldLink RX8 37 (TX8 12).1 (TX8 12).2.1 (TX8 12).2.2.1 ∈ zTbl := zin3 (List.mem_of_getElem? (i := 82) rfl) rfl
theorem mFX8_40 : Cond.fieldLink RX8 40 (TX8 13).1 (TX8 13).2.1 (TX8 13).2.2.1 ∈ zTbl := zin3 (List.mem_of_getElem? (i := 83) rfl) rfl
theorem mFX8_187 : Cond.fieldLink RX8 187 (TX8 14).1 (TX8 14).2.1 (TX8 14).2.2.1 ∈ zTbl := zin3 (List.mem_of_getElem? (i := 84) rfl) rfl
theorem mFX8_43 : Cond.fieldLink RX8 43 (TX8 15).1 (TX8 15).2.1 (TX8 15).2.2.1 ∈ zTbl := zin3 (List.mem_of_getElem? (i := 85) rfl) rfl
theorem mFX8_46 : Cond.fieldLink RX8 46 (TX8 16).1 (TX8 16).2.1 (TX8 16).2.2.1 ∈ zTbl := zin3 (List.mem_of_getElem? (i := 86) rfl) rfl
theorem mFX8_193 : Cond.fieldLink RX8 193 (TX8 17).1 (TX8 17).2.1 (TX8 17).2.2.1 ∈ zTbl := zin3 (List.mem_of_getElem? (i := 87) rfl) rfl
theorem mFX8_49 : Cond.fieldLink RX8 49 (TX8 18).1 (TX8 18).2.1 (TX8 18).2.2.1 ∈ zTbl := zin3 (List.mem_of_getElem? (i := 88) rfl) rfl
theorem mFX8_52 : Cond.fieldLink RX8 52 (TX8 19).1 (TX8 19).2.1 (TX8 19).2.2.1 ∈ zTbl := zin3 (List.mem_of_getElem? (i := 89) rfl) rfl
theorem mFX8_55 : Cond.fieldLink RX8 55 (TX8 20).1 (TX8 20).2.1 (TX8 20).2.2.1 ∈ zTbl := zin3 (List.mem_of_getElem? (i := 90) rfl) rfl
theorem mFX8_58 : Cond.fieldLink RX8 58 (TX8 21).1 (TX8 21).2.1 (TX8 21).2.2.1 ∈ zTbl := zin3 (List.mem_of_getElem? (i := 91) rfl) rfl
theorem mFX8_61 : Cond.fieldLink RX8 61 (TX8 22).1 (TX8 22).2.1 (TX8 22).2.2.1 ∈ zTbl := zin3 (List.mem_of_getElem? (i := 92) rfl) rfl
theorem mFX8_213 : Cond.fieldLink RX8 213 (TX8 23).1 (TX8 23).2.1 (TX8 23).2.2.1 ∈ zTbl := zin3 (List.mem_of_getElem? (i := 93) rfl) rfl
theorem mFX8_65 : Cond.fieldLink RX8 65 (TX8 24).1 (TX8 24).2.1 (TX8 24).2.2.1 ∈ zTbl := zin3 (List.mem_of_getElem? (i := 94) rfl) rfl
theorem mFX8_68 : Cond.fieldLink RX8 68 (TX8 25).1 (TX8 25).2.1 (TX8 25).2.2.1 ∈ zTbl := zin3 (List.mem_of_getElem? (i := 95) rfl) rfl
theorem mFX8_71 : Cond.fieldLink RX8 71 (TX8 26).1 (TX8 26).2.1 (TX8 26).2.2.1 ∈ zTbl := zin3 (List.mem_of_getElem? (i := 96) rfl) rfl
theorem mA_boolean : Cond.arrayClass .boolean ∈ zTbl := zin3 (List.mem_of_getElem? (i := 152) rfl) rfl
theorem mML_17 : Cond.methodLink RL 17 yX8_cause ∈ zTbl := zin3 (List.mem_of_getElem? (i := 153) rfl) rfl
theorem mI_yX8_cause : Cond.instanceMethod yX8_cause ∈ zTbl := zin3 (List.mem_of_getElem? (i := 154) rfl) rfl
theorem mV_yX8_cause : Cond.selects RX8 yX8_cause yX8_cause ∈ zTbl := zin3 (List.mem_of_getElem? (i := 155) rfl) rfl
theorem mC_yX8_cause : Cond.code yX8_cause prog_10_method_4_code 2 (Option.some Jvm.ClassFile.FieldType.int) ∈ zTbl := zin3 (List.mem_of_getElem? (i := 156) rfl) rfl
theorem mML_21 : Cond.methodLink RL 21 yX8_lay ∈ zTbl := zin3 (List.mem_of_getElem? (i := 157) rfl) rfl
theorem mI_yX8_lay : Cond.instanceMethod yX8_lay ∈ zTbl := zin3 (List.mem_of_getElem? (i := 158) rfl) rfl
theorem mV_yX8_lay : Cond.selects RX8 yX8_lay yX8_lay ∈ zTbl := zin3 (List.mem_of_getElem? (i := 159) rfl) rfl
theorem mC_yX8_lay : Cond.code yX8_lay prog_10_method_5_code 2 (Option.some Jvm.ClassFile.FieldType.int) ∈ zTbl := zin3 (List.mem_of_getElem? (i := 160) rfl) rfl
theorem mML_26 : Cond.methodLink RL 26 yX8_wipe ∈ zTbl := zin3 (List.mem_of_getElem? (i := 161) rfl) rfl
theorem mI_yX8_wipe : Cond.instanceMethod yX8_wipe ∈ zTbl := zin3 (List.mem_of_getElem? (i := 162) rfl) rfl
theorem mV_yX8_wipe : Cond.selects RX8 yX8_wipe yX8_wipe ∈ zTbl := zin3 (List.mem_of_getElem? (i := 163) rfl) rfl
theorem mC_yX8_wipe : Cond.code yX8_wipe prog_10_method_6_code 2 (Option.some Jvm.ClassFile.FieldType.int) ∈ zTbl := zin3 (List.mem_of_getElem? (i := 164) rfl) rfl
theorem mML_33 : Cond.methodLink RL 33 yX8_point ∈ zTbl := zin3 (List.mem_of_getElem? (i := 165) rfl) rfl
theorem mI_yX8_point : Cond.instanceMethod yX8_point ∈ zTbl := zin3 (List.mem_of_getElem? (i := 166) rfl) rfl
theorem mV_yX8_point : Cond.selects RX8 yX8_point yX8_point ∈ zTbl := zin3 (List.mem_of_getElem? (i := 167) rfl) rfl
theorem mC_yX8_point : Cond.code yX8_point prog_10_method_19_code 5 (Option.some Jvm.ClassFile.FieldType.int) ∈ zTbl := zin3 (List.mem_of_getElem? (i := 168) rfl) rfl
theorem mMX8_116 : Cond.methodLink RX8 116 yX8_begin ∈ zTbl := zin3 (List.mem_of_getElem? (i := 169) rfl) rfl
theorem mI_yX8_begin : Cond.instanceMethod yX8_begin ∈ zTbl := zin3 (List.mem_of_getElem? (i := 171) rfl) rfl
theorem mC_yX8_begin : Cond.code yX8_begin prog_10_method_2_code 1 (Option.none : Option Jvm.ClassFile.FieldType) ∈ zTbl := zin3 (List.mem_of_getElem? (i := 172) rfl) rfl
theorem mMX8_119 : Cond.methodLink RX8 119 yX8_start ∈ zTbl := zin3 (List.mem_of_getElem? (i := 173) rfl) rfl
theorem mI_yX8_start : Cond.instanceMethod yX8_start ∈ zTbl := zin3 (List.mem_of_getElem? (i := 175) rfl) rfl
theorem mC_yX8_start : Cond.code yX8_start prog_10_method_10_code 2 (Option.none : Option Jvm.ClassFile.FieldType) ∈ zTbl := zin3 (List.mem_of_getElem? (i := 176) rfl) rfl
theorem mMX8_123 : Cond.methodLink RX8 123 yX8_clean ∈ zTbl := zin3 (List.mem_of_getElem? (i := 177) rfl) rfl
theorem mS_yX8_clean : Cond.static yX8_clean ∈ zTbl := zin3 (List.mem_of_getElem? (i := 178) rfl) rfl
theorem mC_yX8_clean : Cond.code yX8_clean prog_10_method_18_code 2 (Option.some Jvm.ClassFile.FieldType.long) ∈ zTbl := zin3 (List.mem_of_getElem? (i := 179) rfl) rfl
theorem mKX8_110 : Cond.constantLong RX8 110 (9223372036854775807) ∈ zTbl := zin3 (List.mem_of_getElem? (i := 180) rfl) rfl
theorem mKX8_112 : Cond.constantLong RX8 112 (9218868437227405312) ∈ zTbl := zin3 (List.mem_of_getElem? (i := 181) rfl) rfl
theorem mKX8_114 : Cond.constantLong RX8 114 (9221120237041090560) ∈ zTbl := zin3 (List.mem_of_getElem? (i := 182) rfl) rfl
theorem mMX8_127 : Cond.methodLink RX8 127 yX8_part ∈ zTbl := zin3 (List.mem_of_getElem? (i := 183) rfl) rfl
theorem mI_yX8_part : Cond.instanceMethod yX8_part ∈ zTbl := zin3 (List.mem_of_getElem? (i := 185) rfl) rfl
theorem mC_yX8_part : Cond.code yX8_part prog_10_method_11_code 3 (Option.none : Option Jvm.ClassFile.FieldType) ∈ zTbl := zin3 (List.mem_of_getElem? (i := 186) rfl) rfl
theorem mMX8_131 : Cond.methodLink RX8 131 yX8_made ∈ zTbl := zin3 (List.mem_of_getElem? (i := 187) rfl) rfl
theorem mI_yX8_made : Cond.instanceMethod yX8_made ∈ zTbl := zin3 (List.mem_of_getElem? (i := 189) rfl) rfl
theorem mC_yX8_made : Cond.code yX8_made prog_10_method_17_code 1 (Option.some Jvm.ClassFile.FieldType.int) ∈ zTbl := zin3 (List.mem_of_getElem? (i := 190) rfl) rfl
theorem mMX8_103 : Cond.methodLink RX8 103 yX8_leastLike ∈ zTbl := zin3 (List.mem_of_getElem? (i := 191) rfl) rfl
theorem mI_yX8_leastLike : Cond.instanceMethod yX8_leastLike ∈ zTbl := zin3 (List.mem_of_getElem? (i := 193) rfl) rfl
theorem mC_yX8_leastLike : Cond.code yX8_leastLike prog_10_method_13_code 5 (Option.some Jvm.ClassFile.FieldType.int) ∈ zTbl := zin3 (List.mem_of_getElem? (i := 194) rfl) rfl
theorem mMX8_86 : Cond.methodLink RX8 86 yX8_isFigurePart ∈ zTbl := zin3 (List.mem_of_getElem? (i := 195) rfl) rfl
theorem mI_yX8_isFigurePart : Cond.instanceMethod yX8_isFigurePart ∈ zTbl := zin3 (List.mem_of_getElem? (i := 197) rfl) rfl
theorem mC_yX8_isFigurePart : Cond.code yX8_isFigurePart prog_10_method_12_code 2 (Option.some Jvm.ClassFile.FieldType.boolean) ∈ zTbl := zin3 (List.mem_of_getElem? (i := 198) rfl) rfl
theorem mMX8_90 : Cond.methodLink RX8 90 yX8_cellOf ∈ zTbl := zin3 (List.mem_of_getElem? (i := 199) rfl) rfl
theorem mI_yX8_cellOf : Cond.instanceMethod yX8_cellOf ∈ zTbl := zin3 (List.mem_of_getElem? (i := 201) rfl) rfl
theorem mC_yX8_cellOf : Cond.code yX8_cellOf prog_10_method_9_code 3 (Option.some Jvm.ClassFile.FieldType.long) ∈ zTbl := zin3 (List.mem_of_getElem? (i := 202) rfl) rfl
theorem mMX8_94 : Cond.methodLink RX8 94 yX8_likeOf ∈ zTbl := zin3 (List.mem_of_getElem? (i := 203) rfl) rfl
theorem mI_yX8_likeOf : Cond.instanceMethod yX8_likeOf ∈ zTbl := zin3 (List.mem_of_getElem? (i := 205) rfl) rfl
theorem mC_yX8_likeOf : Cond.code yX8_likeOf prog_10_method_14_code 3 (Option.some Jvm.ClassFile.FieldType.int) ∈ zTbl := zin3 (List.mem_of_getElem? (i := 206) rfl) rfl
theorem mKX8_98 : Cond.constantLong RX8 98 (-1) ∈ zTbl := zin3 (List.mem_of_getElem? (i := 207) rfl) rfl
theorem mMX8_107 : Cond.methodLink RX8 107 yX8_hashOf ∈ zTbl := zin3 (List.mem_of_getElem? (i := 208) rfl) rfl
theorem mI_yX8_hashOf : Cond.instanceMethod yX8_hashOf ∈ zTbl := zin3 (List.mem_of_getElem? (i := 210) rfl) rfl
theorem mC_yX8_hashOf : Cond.code yX8_hashOf prog_10_method_16_code 6 (Option.some Jvm.ClassFile.FieldType.int) ∈ zTbl := zin3 (List.mem_of_getElem? (i := 211) rfl) rfl
theorem mMX8_100 : Cond.methodLink RX8 100 yX8_folded ∈ zTbl := zin3 (List.mem_of_getElem? (i := 212) rfl) rfl
theorem mS_yX8_folded : Cond.static yX8_folded ∈ zTbl := zin3 (List.mem_of_getElem? (i := 213) rfl) rfl
theorem mC_yX8_folded : Cond.code yX8_folded prog_10_method_15_code 2 (Option.some Jvm.ClassFile.FieldType.int) ∈ zTbl := zin3 (List.mem_of_getElem? (i := 214) rfl) rfl
theorem mML_38 : Cond.methodLink RL 38 yX8_span ∈ zTbl := zin3 (List.mem_of_getElem? (i := 215) rfl) rfl
theorem mI_yX8_span : Cond.instanceMethod yX8_span ∈ zTbl := zin3 (List.mem_of_getElem? (i := 216) rfl) rfl
theorem mV_yX8_span : Cond.selects RX8 yX8_span yX8_span ∈ zTbl := zin3 (List.mem_of_getElem? (i := 217) rfl) rfl
theorem mC_yX8_span : Cond.code yX8_span prog_10_method_20_code 3 (Option.some Jvm.ClassFile.FieldType.int) ∈ zTbl := zin3 (List.mem_of_getElem? (i := 218) rfl) rfl
theorem mMX8_135 : Cond.methodLink RX8 135 yX8_fails ∈ zTbl := zin3 (List.mem_of_getElem? (i := 219) rfl) rfl
theorem mI_yX8_fails : Cond.instanceMethod yX8_fails ∈ zTbl := zin3 (List.mem_of_getElem? (i := 221) rfl) rfl
theorem mC_yX8_fails : Cond.code yX8_fails prog_10_method_3_code 4 (Option.some Jvm.ClassFile.FieldType.int) ∈ zTbl := zin3 (List.mem_of_getElem? (i := 222) rfl) rfl
theorem mML_43 : Cond.methodLink RL 43 yX8_wide ∈ zTbl := zin3 (List.mem_of_getElem? (i := 223) rfl) rfl
theorem mI_yX8_wide : Cond.instanceMethod yX8_wide ∈ zTbl := zin3 (List.mem_of_getElem? (i := 224) rfl) rfl
theorem mV_yX8_wide : Cond.selects RX8 yX8_wide yX8_wide ∈ zTbl := zin3 (List.mem_of_getElem? (i := 225) rfl) rfl
theorem mC_yX8_wide : Cond.code yX8_wide prog_10_method_21_code 4 (Option.some Jvm.ClassFile.FieldType.int) ∈ zTbl := zin3 (List.mem_of_getElem? (i := 226) rfl) rfl
theorem mML_47 : Cond.methodLink RL 47 yX8_share ∈ zTbl := zin3 (List.mem_of_getElem? (i := 227) rfl) rfl
theorem mI_yX8_share : Cond.instanceMethod yX8_share ∈ zTbl := zin3 (List.mem_of_getElem? (i := 228) rfl) rfl
theorem mV_yX8_share : Cond.selects RX8 yX8_share yX8_share ∈ zTbl := zin3 (List.mem_of_getElem? (i := 229) rfl) rfl
theorem mC_yX8_share : Cond.code yX8_share prog_10_method_22_code 5 (Option.some Jvm.ClassFile.FieldType.int) ∈ zTbl := zin3 (List.mem_of_getElem? (i := 230) rfl) rfl
theorem mML_51 : Cond.methodLink RL 51 yX8_pair ∈ zTbl := zin3 (List.mem_of_getElem? (i := 231) rfl) rfl
theorem mI_yX8_pair : Cond.instanceMethod yX8_pair ∈ zTbl := zin3 (List.mem_of_getElem? (i := 232) rfl) rfl
theorem mV_yX8_pair : Cond.selects RX8 yX8_pair yX8_pair ∈ zTbl := zin3 (List.mem_of_getElem? (i := 233) rfl) rfl
theorem mC_yX8_pair : Cond.code yX8_pair prog_10_method_23_code 3 (Option.some Jvm.ClassFile.FieldType.int) ∈ zTbl := zin3 (List.mem_of_getElem? (i := 234) rfl) rfl
theorem mMX8_139 : Cond.methodLink RX8 139 yX8_isFigure ∈ zTbl := zin3 (List.mem_of_getElem? (i := 235) rfl) rfl
theorem mI_yX8_isFigure : Cond.instanceMethod yX8_isFigure ∈ zTbl := zin3 (List.mem_of_getElem? (i := 237) rfl) rfl
theorem mC_yX8_isFigure : Cond.code yX8_isFigure prog_10_method_7_code 2 (Option.some Jvm.ClassFile.FieldType.boolean) ∈ zTbl := zin3 (List.mem_of_getElem? (i := 238) rfl) rfl
theorem mML_55 : Cond.methodLink RL 55 yX8_row ∈ zTbl := zin3 (List.mem_of_getElem? (i := 239) rfl) rfl
theorem mI_yX8_row : Cond.instanceMethod yX8_row ∈ zTbl := zin4 (List.mem_of_getElem? (i := 0) rfl) rfl
theorem mV_yX8_row : Cond.selects RX8 yX8_row yX8_row ∈ zTbl := zin4 (List.mem_of_getElem? (i := 1) rfl) rfl
theorem mC_yX8_row : Cond.code yX8_row prog_10_method_25_code 4 (Option.some Jvm.ClassFile.FieldType.int) ∈ zTbl := zin4 (List.mem_of_getElem? (i := 2) rfl) rfl
theorem mMX8_142 : Cond.methodLink RX8 142 yX8_laid ∈ zTbl := zin4 (List.mem_of_getElem? (i := 3) rfl) rfl
theorem mI_yX8_laid : Cond.instanceMethod yX8_laid ∈ zTbl := zin4 (List.mem_of_getElem? (i := 5) rfl) rfl
theorem mC_yX8_laid : Cond.code yX8_laid prog_10_method_24_code 2 (Option.some Jvm.ClassFile.FieldType.int) ∈ zTbl := zin4 (List.mem_of_getElem? (i := 6) rfl) rfl
theorem mML_60 : Cond.methodLink RL 60 yX8_shelf ∈ zTbl := zin4 (List.mem_of_getElem? (i := 7) rfl) rfl
theorem mI_yX8_shelf : Cond.instanceMethod yX8_shelf ∈ zTbl := zin4 (List.mem_of_getElem? (i := 8) rfl) rfl
theorem mV_yX8_shelf : Cond.selects RX8 yX8_shelf yX8_shelf ∈ zTbl := zin4 (List.mem_of_getElem? (i := 9) rfl) rfl
theorem mC_yX8_shelf : Cond.code yX8_shelf prog_10_method_26_code 4 (Option.some Jvm.ClassFile.FieldType.int) ∈ zTbl := zin4 (List.mem_of_getElem? (i := 10) rfl) rfl
theorem mML_64 : Cond.methodLink RL 64 yX8_set ∈ zTbl := zin4 (List.mem_of_getElem? (i := 11) rfl) rfl
theorem mI_yX8_set : Cond.instanceMethod yX8_set ∈ zTbl := zin4 (List.mem_of_getElem? (i := 12) rfl) rfl
theorem mV_yX8_set : Cond.selects RX8 yX8_set yX8_set ∈ zTbl := zin4 (List.mem_of_getElem? (i := 13) rfl) rfl
theorem mC_yX8_set : Cond.code yX8_set prog_10_method_28_code 4 (Option.some Jvm.ClassFile.FieldType.int) ∈ zTbl := zin4 (List.mem_of_getElem? (i := 14) rfl) rfl
theorem mMX8_145 : Cond.methodLink RX8 145 yX8_hasPlace ∈ zTbl := zin4 (List.mem_of_getElem? (i := 15) rfl) rfl
theorem mI_yX8_hasPlace : Cond.instanceMethod yX8_hasPlace ∈ zTbl := zin4 (List.mem_of_getElem? (i := 17) rfl) rfl
theorem mC_yX8_hasPlace : Cond.code yX8_hasPlace prog_10_method_27_code 3 (Option.some Jvm.ClassFile.FieldType.boolean) ∈ zTbl := zin4 (List.mem_of_getElem? (i := 18) rfl) rfl
theorem mML_68 : Cond.methodLink RL 68 yX8_at_ ∈ zTbl := zin4 (List.mem_of_getElem? (i := 19) rfl) rfl
theorem mI_yX8_at_ : Cond.instanceMethod yX8_at_ ∈ zTbl := zin4 (List.mem_of_getElem? (i := 20) rfl) rfl
theorem mV_yX8_at_ : Cond.selects RX8 yX8_at_ yX8_at_ ∈ zTbl := zin4 (List.mem_of_getElem? (i := 21) rfl) rfl
theorem mC_yX8_at_ : Cond.code yX8_at_ prog_10_method_29_code 3 (Option.some Jvm.ClassFile.FieldType.int) ∈ zTbl := zin4 (List.mem_of_getElem? (i := 22) rfl) rfl
theorem mML_72 : Cond.methodLink RL 72 yX8_kind ∈ zTbl := zin4 (List.mem_of_getElem? (i := 23) rfl) rfl
theorem mI_yX8_kind : Cond.instanceMethod yX8_kind ∈ zTbl := zin4 (List.mem_of_getElem? (i := 24) rfl) rfl
theorem mV_yX8_kind : Cond.selects RX8 yX8_kind yX8_kind ∈ zTbl := zin4 (List.mem_of_getElem? (i := 25) rfl) rfl
theorem mC_yX8_kind : Cond.code yX8_kind prog_10_method_30_code 2 (Option.some Jvm.ClassFile.FieldType.int) ∈ zTbl := zin4 (List.mem_of_getElem? (i := 26) rfl) rfl
theorem mML_76 : Cond.methodLink RL 76 yX8_parts ∈ zTbl := zin4 (List.mem_of_getElem? (i := 27) rfl) rfl
theorem mI_yX8_parts : Cond.instanceMethod yX8_parts ∈ zTbl := zin4 (List.mem_of_getElem? (i := 28) rfl) rfl
theorem mV_yX8_parts : Cond.selects RX8 yX8_parts yX8_parts ∈ zTbl := zin4 (List.mem_of_getElem? (i := 29) rfl) rfl
theorem mC_yX8_parts : Cond.code yX8_parts prog_10_method_31_code 2 (Option.some Jvm.ClassFile.FieldType.int) ∈ zTbl := zin4 (List.mem_of_getElem? (i := 30) rfl) rfl
theorem mML_81 : Cond.methodLink RL 81 yX8_part_ ∈ zTbl := zin4 (List.mem_of_getElem? (i := 31) rfl) rfl
theorem mI_yX8_part_ : Cond.instanceMethod yX8_part_ ∈ zTbl := zin4 (List.mem_of_getElem? (i := 32) rfl) rfl
theorem mV_yX8_part_ : Cond.selects RX8 yX8_part_ yX8_part_ ∈ zTbl := zin4 (List.mem_of_getElem? (i := 33) rfl) rfl
theorem mC_yX8_part_ : Cond.code yX8_part_ prog_10_method_32_code 3 (Option.some Jvm.ClassFile.FieldType.long) ∈ zTbl := zin4 (List.mem_of_getElem? (i := 34) rfl) rfl
theorem mKX8_149 : Cond.constantLong RX8 149 (-3000000000000000000) ∈ zTbl := zin4 (List.mem_of_getElem? (i := 35) rfl) rfl
theorem mMX8_151 : Cond.methodLink RX8 151 yX8_at ∈ zTbl := zin4 (List.mem_of_getElem? (i := 36) rfl) rfl
theorem mI_yX8_at : Cond.instanceMethod yX8_at ∈ zTbl := zin4 (List.mem_of_getElem? (i := 38) rfl) rfl
theorem mC_yX8_at : Cond.code yX8_at prog_10_method_8_code 5 (Option.some Jvm.ClassFile.FieldType.long) ∈ zTbl := zin4 (List.mem_of_getElem? (i := 39) rfl) rfl
theorem mML_86 : Cond.methodLink RL 86 yX8_weight ∈ zTbl := zin4 (List.mem_of_getElem? (i := 40) rfl) rfl
theorem mI_yX8_weight : Cond.instanceMethod yX8_weight ∈ zTbl := zin4 (List.mem_of_getElem? (i := 41) rfl) rfl
theorem mV_yX8_weight : Cond.selects RX8 yX8_weight yX8_weight ∈ zTbl := zin4 (List.mem_of_getElem? (i := 42) rfl) rfl
theorem mC_yX8_weight : Cond.code yX8_weight prog_10_method_35_code 4 (Option.some Jvm.ClassFile.FieldType.long) ∈ zTbl := zin4 (List.mem_of_getElem? (i := 43) rfl) rfl
theorem mMX8_163 : Cond.methodLink RX8 163 yX8_weightOf ∈ zTbl := zin4 (List.mem_of_getElem? (i := 44) rfl) rfl
theorem mI_yX8_weightOf : Cond.instanceMethod yX8_weightOf ∈ zTbl := zin4 (List.mem_of_getElem? (i := 46) rfl) rfl
theorem mC_yX8_weightOf : Cond.code yX8_weightOf prog_10_method_34_code 8 (Option.some Jvm.ClassFile.FieldType.long) ∈ zTbl := zin4 (List.mem_of_getElem? (i := 47) rfl) rfl
theorem mMX8_159 : Cond.methodLink RX8 159 yX8_heavyOf ∈ zTbl := zin4 (List.mem_of_getElem? (i := 48) rfl) rfl
theorem mI_yX8_heavyOf : Cond.instanceMethod yX8_heavyOf ∈ zTbl := zin4 (List.mem_of_getElem? (i := 50) rfl) rfl
theorem mC_yX8_heavyOf : Cond.code yX8_heavyOf prog_10_method_33_code 4 (Option.some Jvm.ClassFile.FieldType.long) ∈ zTbl := zin4 (List.mem_of_getElem? (i := 51) rfl) rfl
theorem mKX8_155 : Cond.constantLong RX8 155 (2) ∈ zTbl := zin4 (List.mem_of_getElem? (i := 52) rfl) rfl
theorem mKX8_157 : Cond.constantLong RX8 157 (3) ∈ zTbl := zin4 (List.mem_of_getElem? (i := 53) rfl) rfl
theorem mML_90 : Cond.methodLink RL 90 yX8_equal ∈ zTbl := zin4 (List.mem_of_getElem? (i := 54) rfl) rfl
theorem mI_yX8_equal : Cond.instanceMethod yX8_equal ∈ zTbl := zin4 (List.mem_of_getElem? (i := 55) rfl) rfl
theorem mV_yX8_equal : Cond.selects RX8 yX8_equal yX8_equal ∈ zTbl := zin4 (List.mem_of_getElem? (i := 56) rfl) rfl
theorem mC_yX8_equal : Cond.code yX8_equal prog_10_method_36_code 3 (Option.some Jvm.ClassFile.FieldType.int) ∈ zTbl := zin4 (List.mem_of_getElem? (i := 57) rfl) rfl
theorem mML_94 : Cond.methodLink RL 94 yX8_hash ∈ zTbl := zin4 (List.mem_of_getElem? (i := 58) rfl) rfl
theorem mI_yX8_hash : Cond.instanceMethod yX8_hash ∈ zTbl := zin4 (List.mem_of_getElem? (i := 59) rfl) rfl
theorem mV_yX8_hash : Cond.selects RX8 yX8_hash yX8_hash ∈ zTbl := zin4 (List.mem_of_getElem? (i := 60) rfl) rfl
theorem mC_yX8_hash : Cond.code yX8_hash prog_10_method_37_code 2 (Option.some Jvm.ClassFile.FieldType.int) ∈ zTbl := zin4 (List.mem_of_getElem? (i := 61) rfl) rfl
theorem mML_106 : Cond.methodLink RL 106 yX8_first ∈ zTbl := zin4 (List.mem_of_getElem? (i := 62) rfl) rfl
theorem mI_yX8_first : Cond.instanceMethod yX8_first ∈ zTbl := zin4 (List.mem_of_getElem? (i := 63) rfl) rfl
theorem mV_yX8_first : Cond.selects RX8 yX8_first yX8_first ∈ zTbl := zin4 (List.mem_of_getElem? (i := 64) rfl) rfl
theorem mC_yX8_first : Cond.code yX8_first prog_10_method_38_code 2 (Option.some Jvm.ClassFile.FieldType.int) ∈ zTbl := zin4 (List.mem_of_getElem? (i := 65) rfl) rfl
theorem mML_98 : Cond.methodLink RL 98 yX8_order ∈ zTbl := zin4 (List.mem_of_getElem? (i := 66) rfl) rfl
theorem mI_yX8_order : Cond.instanceMethod yX8_order ∈ zTbl := zin4 (List.mem_of_getElem? (i := 67) rfl) rfl
theorem mV_yX8_order : Cond.selects RX8 yX8_order yX8_order ∈ zTbl := zin4 (List.mem_of_getElem? (i := 68) rfl) rfl
theorem mC_yX8_order : Cond.code yX8_order prog_10_method_44_code 3 (Option.some Jvm.ClassFile.FieldType.int) ∈ zTbl := zin4 (List.mem_of_getElem? (i := 69) rfl) rfl
theorem mMX8_180 : Cond.methodLink RX8 180 yX8_ordered ∈ zTbl := zin4 (List.mem_of_getElem? (i := 70) rfl) rfl
theorem mI_yX8_ordered : Cond.instanceMethod yX8_ordered ∈ zTbl := zin4 (List.mem_of_getElem? (i := 72) rfl) rfl
theorem mC_yX8_ordered : Cond.code yX8_ordered prog_10_method_43_code 3 (Option.some Jvm.ClassFile.FieldType.int) ∈ zTbl := zin4 (List.mem_of_getElem? (i := 73) rfl) rfl
theorem mMX8_177 : Cond.methodLink RX8 177 yX8_compared ∈ zTbl := zin4 (List.mem_of_getElem? (i := 74) rfl) rfl
theorem mI_yX8_compared : Cond.instanceMethod yX8_compared ∈ zTbl := zin4 (List.mem_of_getElem? (i := 76) rfl) rfl
theorem mC_yX8_compared : Cond.code yX8_compared prog_10_method_42_code 10 (Option.some Jvm.ClassFile.FieldType.int) ∈ zTbl := zin4 (List.mem_of_getElem? (i := 77) rfl) rfl
theorem mMX8_166 : Cond.methodLink RX8 166 yX8_by ∈ zTbl := zin4 (List.mem_of_getElem? (i := 78) rfl) rfl
theorem mS_yX8_by : Cond.static yX8_by ∈ zTbl := zin4 (List.mem_of_getElem? (i := 79) rfl) rfl
theorem mC_yX8_by : Cond.code yX8_by prog_10_method_39_code 4 (Option.some Jvm.ClassFile.FieldType.int) ∈ zTbl := zin4 (List.mem_of_getElem? (i := 80) rfl) rfl
theorem mMX8_170 : Cond.methodLink RX8 170 yX8_byRows ∈ zTbl := zin4 (List.mem_of_getElem? (i := 81) rfl) rfl
theorem mI_yX8_byRows : Cond.instanceMethod yX8_byRows ∈ zTbl := zin4 (List.mem_of_getElem? (i := 83) rfl) rfl
theorem mC_yX8_byRows : Cond.code yX8_byRows prog_10_method_41_code 6 (Option.some Jvm.ClassFile.FieldType.int) ∈ zTbl := zin4 (List.mem_of_getElem? (i := 84) rfl) rfl
theorem mMX8_174 : Cond.methodLink RX8 174 yX8_line ∈ zTbl := zin4 (List.mem_of_getElem? (i := 85) rfl) rfl
theorem mS_yX8_line : Cond.static yX8_line ∈ zTbl := zin4 (List.mem_of_getElem? (i := 86) rfl) rfl
theorem mC_yX8_line : Cond.code yX8_line prog_10_method_40_code 2 (Option.some Jvm.ClassFile.FieldType.long) ∈ zTbl := zin4 (List.mem_of_getElem? (i := 87) rfl) rfl
theorem mML_102 : Cond.methodLink RL 102 yX8_ranked ∈ zTbl := zin4 (List.mem_of_getElem? (i := 88) rfl) rfl
theorem mI_yX8_ranked : Cond.instanceMethod yX8_ranked ∈ zTbl := zin4 (List.mem_of_getElem? (i := 89) rfl) rfl
theorem mV_yX8_ranked : Cond.selects RX8 yX8_ranked yX8_ranked ∈ zTbl := zin4 (List.mem_of_getElem? (i := 90) rfl) rfl
theorem mC_yX8_ranked : Cond.code yX8_ranked prog_10_method_45_code 6 (Option.some Jvm.ClassFile.FieldType.int) ∈ zTbl := zin4 (List.mem_of_getElem? (i := 91) rfl) rfl
theorem mML_111 : Cond.methodLink RL 111 yX8_family ∈ zTbl := zin4 (List.mem_of_getElem? (i := 92) rfl) rfl
theorem mI_yX8_family : Cond.instanceMethod yX8_family ∈ zTbl := zin4 (List.mem_of_getElem? (i := 93) rfl) rfl
theorem mV_yX8_family : Cond.selects RX8 yX8_family yX8_family ∈ zTbl := zin4 (List.mem_of_getElem? (i := 94) rfl) rfl
theorem mC_yX8_family : Cond.code yX8_family prog_10_method_47_code 9 (Option.some Jvm.ClassFile.FieldType.int) ∈ zTbl := zin4 (List.mem_of_getElem? (i := 95) rfl) rfl
theorem mMX8_183 : Cond.methodLink RX8 183 yX8_told4 ∈ zTbl := zin4 (List.mem_of_getElem? (i := 96) rfl) rfl
theorem mS_yX8_told4 : Cond.static yX8_told4 ∈ zTbl := zin4 (List.mem_of_getElem? (i := 97) rfl) rfl
theorem mC_yX8_told4 : Cond.code yX8_told4 prog_10_method_46_code 5 (Option.some Jvm.ClassFile.FieldType.int) ∈ zTbl := zin4 (List.mem_of_getElem? (i := 98) rfl) rfl
theorem mML_115 : Cond.methodLink RL 115 yX8_tag ∈ zTbl := zin4 (List.mem_of_getElem? (i := 99) rfl) rfl
theorem mI_yX8_tag : Cond.instanceMethod yX8_tag ∈ zTbl := zin4 (List.mem_of_getElem? (i := 100) rfl) rfl
theorem mV_yX8_tag : Cond.selects RX8 yX8_tag yX8_tag ∈ zTbl := zin4 (List.mem_of_getElem? (i := 101) rfl) rfl
theorem mC_yX8_tag : Cond.code yX8_tag prog_10_method_49_code 3 (Option.some Jvm.ClassFile.FieldType.int) ∈ zTbl := zin4 (List.mem_of_getElem? (i := 102) rfl) rfl
theorem mMX8_190 : Cond.methodLink RX8 190 yX8_tagOf ∈ zTbl := zin4 (List.mem_of_getElem? (i := 103) rfl) rfl
theorem mI_yX8_tagOf : Cond.instanceMethod yX8_tagOf ∈ zTbl := zin4 (List.mem_of_getElem? (i := 105) rfl) rfl
theorem mC_yX8_tagOf : Cond.code yX8_tagOf prog_10_method_48_code 7 (Option.some Jvm.ClassFile.FieldType.int) ∈ zTbl := zin4 (List.mem_of_getElem? (i := 106) rfl) rfl
theorem mML_119 : Cond.methodLink RL 119 yX8_tagged ∈ zTbl := zin4 (List.mem_of_getElem? (i := 107) rfl) rfl
theorem mI_yX8_tagged : Cond.instanceMethod yX8_tagged ∈ zTbl := zin4 (List.mem_of_getElem? (i := 108) rfl) rfl
theorem mV_yX8_tagged : Cond.selects RX8 yX8_tagged yX8_tagged ∈ zTbl := zin4 (List.mem_of_getElem? (i := 109) rfl) rfl
theorem mC_yX8_tagged : Cond.code yX8_tagged prog_10_method_50_code 5 (Option.some Jvm.ClassFile.FieldType.int) ∈ zTbl := zin4 (List.mem_of_getElem? (i := 110) rfl) rfl
theorem mML_123 : Cond.methodLink RL 123 yX8_constant ∈ zTbl := zin4 (List.mem_of_getElem? (i := 111) rfl) rfl
theorem mI_yX8_constant : Cond.instanceMethod yX8_constant ∈ zTbl := zin4 (List.mem_of_getElem? (i := 112) rfl) rfl
theorem mV_yX8_constant : Cond.selects RX8 yX8_constant yX8_constant ∈ zTbl := zin4 (List.mem_of_getElem? (i := 113) rfl) rfl
theorem mC_yX8_constant : Cond.code yX8_constant prog_10_method_55_code 3 (Option.some Jvm.ClassFile.FieldType.int) ∈ zTbl := zin4 (List.mem_of_getElem? (i := 114) rfl) rfl
theorem mMX8_196 : Cond.methodLink RX8 196 yX8_isEnumeration ∈ zTbl := zin4 (List.mem_of_getElem? (i := 115) rfl) rfl
theorem mS_yX8_isEnumeration : Cond.static yX8_isEnumeration ∈ zTbl := zin4 (List.mem_of_getElem? (i := 116) rfl) rfl
theorem mC_yX8_isEnumeration : Cond.code yX8_isEnumeration prog_10_method_51_code 1 (Option.some Jvm.ClassFile.FieldType.boolean) ∈ zTbl := zin4 (List.mem_of_getElem? (i := 117) rfl) rfl
theorem mMX8_199 : Cond.methodLink RX8 199 yX8_constantOf ∈ zTbl := zin4 (List.mem_of_getElem? (i := 118) rfl) rfl
theorem mI_yX8_constantOf : Cond.instanceMethod yX8_constantOf ∈ zTbl := zin4 (List.mem_of_getElem? (i := 120) rfl) rfl
theorem mC_yX8_constantOf : Cond.code yX8_constantOf prog_10_method_54_code 4 (Option.some Jvm.ClassFile.FieldType.int) ∈ zTbl := zin4 (List.mem_of_getElem? (i := 121) rfl) rfl
theorem mML_127 : Cond.methodLink RL 127 yX8_named ∈ zTbl := zin4 (List.mem_of_getElem? (i := 122) rfl) rfl
theorem mI_yX8_named : Cond.instanceMethod yX8_named ∈ zTbl := zin4 (List.mem_of_getElem? (i := 123) rfl) rfl
theorem mV_yX8_named : Cond.selects RX8 yX8_named yX8_named ∈ zTbl := zin4 (List.mem_of_getElem? (i := 124) rfl) rfl
theorem mC_yX8_named : Cond.code yX8_named prog_10_method_56_code 4 (Option.some Jvm.ClassFile.FieldType.int) ∈ zTbl := zin4 (List.mem_of_getElem? (i := 125) rfl) rfl
theorem mML_131 : Cond.methodLink RL 131 yX8_drop ∈ zTbl := zin4 (List.mem_of_getElem? (i := 126) rfl) rfl
theorem mI_yX8_drop : Cond.instanceMethod yX8_drop ∈ zTbl := zin4 (List.mem_of_getElem? (i := 127) rfl) rfl
theorem mV_yX8_drop : Cond.selects RX8 yX8_drop yX8_drop ∈ zTbl := zin4 (List.mem_of_getElem? (i := 128) rfl) rfl
theorem mC_yX8_drop : Cond.code yX8_drop prog_10_method_57_code 4 (Option.some Jvm.ClassFile.FieldType.int) ∈ zTbl := zin4 (List.mem_of_getElem? (i := 129) rfl) rfl
theorem mMX8_202 : Cond.methodLink RX8 202 yX8_isConstant ∈ zTbl := zin4 (List.mem_of_getElem? (i := 130) rfl) rfl
theorem mI_yX8_isConstant : Cond.instanceMethod yX8_isConstant ∈ zTbl := zin4 (List.mem_of_getElem? (i := 132) rfl) rfl
theorem mC_yX8_isConstant : Cond.code yX8_isConstant prog_10_method_52_code 2 (Option.some Jvm.ClassFile.FieldType.boolean) ∈ zTbl := zin4 (List.mem_of_getElem? (i := 133) rfl) rfl
theorem mML_135 : Cond.methodLink RL 135 yX8_reorder ∈ zTbl := zin4 (List.mem_of_getElem? (i := 134) rfl) rfl
theorem mI_yX8_reorder : Cond.instanceMethod yX8_reorder ∈ zTbl := zin4 (List.mem_of_getElem? (i := 135) rfl) rfl
theorem mV_yX8_reorder : Cond.selects RX8 yX8_reorder yX8_reorder ∈ zTbl := zin4 (List.mem_of_getElem? (i := 136) rfl) rfl
theorem mC_yX8_reorder : Cond.code yX8_reorder prog_10_method_58_code 6 (Option.some Jvm.ClassFile.FieldType.int) ∈ zTbl := zin4 (List.mem_of_getElem? (i := 137) rfl) rfl
theorem mKX8_205 : Cond.constantLong RX8 205 (48271) ∈ zTbl := zin4 (List.mem_of_getElem? (i := 138) rfl) rfl
theorem mKX8_207 : Cond.constantLong RX8 207 (2147483647) ∈ zTbl := zin4 (List.mem_of_getElem? (i := 139) rfl) rfl
theorem mMX8_209 : Cond.methodLink RX8 209 yX8_constantAt ∈ zTbl := zin4 (List.mem_of_getElem? (i := 140) rfl) rfl
theorem mI_yX8_constantAt : Cond.instanceMethod yX8_constantAt ∈ zTbl := zin4 (List.mem_of_getElem? (i := 142) rfl) rfl
theorem mC_yX8_constantAt : Cond.code yX8_constantAt prog_10_method_53_code 4 (Option.some Jvm.ClassFile.FieldType.int) ∈ zTbl := zin4 (List.mem_of_getElem? (i := 143) rfl) rfl
theorem mML_139 : Cond.methodLink RL 139 yX8_seed ∈ zTbl := zin4 (List.mem_of_getElem? (i := 144) rfl) rfl
theorem mI_yX8_seed : Cond.instanceMethod yX8_seed ∈ zTbl := zin4 (List.mem_of_getElem? (i := 145) rfl) rfl
theorem mV_yX8_seed : Cond.selects RX8 yX8_seed yX8_seed ∈ zTbl := zin4 (List.mem_of_getElem? (i := 146) rfl) rfl
theorem mC_yX8_seed : Cond.code yX8_seed prog_10_method_59_code 3 (Option.some Jvm.ClassFile.FieldType.int) ∈ zTbl := zin4 (List.mem_of_getElem? (i := 147) rfl) rfl
theorem mKX8_212 : Cond.constant RX8 212 (2147483647) ∈ zTbl := zin4 (List.mem_of_getElem? (i := 148) rfl) rfl
theorem mML_143 : Cond.methodLink RL 143 yX8_told ∈ zTbl := zin4 (List.mem_of_getElem? (i := 149) rfl) rfl
theorem mI_yX8_told : Cond.instanceMethod yX8_told ∈ zTbl := zin4 (List.mem_of_getElem? (i := 150) rfl) rfl
theorem mV_yX8_told : Cond.selects RX8 yX8_told yX8_told ∈ zTbl := zin4 (List.mem_of_getElem? (i := 151) rfl) rfl
theorem mC_yX8_told : Cond.code yX8_told prog_10_method_60_code 3 (Option.some Jvm.ClassFile.FieldType.int) ∈ zTbl := zin4 (List.mem_of_getElem? (i := 152) rfl) rfl
theorem mML_147 : Cond.methodLink RL 147 yX8_placed ∈ zTbl := zin4 (List.mem_of_getElem? (i := 153) rfl) rfl
theorem mI_yX8_placed : Cond.instanceMethod yX8_placed ∈ zTbl := zin4 (List.mem_of_getElem? (i := 154) rfl) rfl
theorem mV_yX8_placed : Cond.selects RX8 yX8_placed yX8_placed ∈ zTbl := zin4 (List.mem_of_getElem? (i := 155) rfl) rfl
theorem mC_yX8_placed : Cond.code yX8_placed prog_10_method_61_code 3 (Option.some Jvm.ClassFile.FieldType.int) ∈ zTbl := zin4 (List.mem_of_getElem? (i := 156) rfl) rfl
theorem mML_151 : Cond.methodLink RL 151 yX8_put ∈ zTbl := zin4 (List.mem_of_getElem? (i := 157) rfl) rfl
theorem mI_yX8_put : Cond.instanceMethod yX8_put ∈ zTbl := zin4 (List.mem_of_getElem? (i := 158) rfl) rfl
theorem mV_yX8_put : Cond.selects RX8 yX8_put yX8_put ∈ zTbl := zin4 (List.mem_of_getElem? (i := 159) rfl) rfl
theorem mC_yX8_put : Cond.code yX8_put prog_10_method_63_code 5 (Option.some Jvm.ClassFile.FieldType.int) ∈ zTbl := zin4 (List.mem_of_getElem? (i := 160) rfl) rfl
theorem mMX8_216 : Cond.methodLink RX8 216 yX8_keyOf ∈ zTbl := zin4 (List.mem_of_getElem? (i := 161) rfl) rfl
theorem mI_yX8_keyOf : Cond.instanceMethod yX8_keyOf ∈ zTbl := zin4 (List.mem_of_getElem? (i := 163) rfl) rfl
theorem mC_yX8_keyOf : Cond.code yX8_keyOf prog_10_method_62_code 3 (Option.some Jvm.ClassFile.FieldType.int) ∈ zTbl := zin4 (List.mem_of_getElem? (i := 164) rfl) rfl
theorem mML_155 : Cond.methodLink RL 155 yX8_get ∈ zTbl := zin4 (List.mem_of_getElem? (i := 165) rfl) rfl
theorem mI_yX8_get : Cond.instanceMethod yX8_get ∈ zTbl := zin4 (List.mem_of_getElem? (i := 166) rfl) rfl
theorem mV_yX8_get : Cond.selects RX8 yX8_get yX8_get ∈ zTbl := zin4 (List.mem_of_getElem? (i := 167) rfl) rfl
theorem mC_yX8_get : Cond.code yX8_get prog_10_method_64_code 2 (Option.some Jvm.ClassFile.FieldType.int) ∈ zTbl := zin4 (List.mem_of_getElem? (i := 168) rfl) rfl
theorem mML_159 : Cond.methodLink RL 159 yX8_count ∈ zTbl := zin4 (List.mem_of_getElem? (i := 169) rfl) rfl
theorem mI_yX8_count : Cond.instanceMethod yX8_count ∈ zTbl := zin4 (List.mem_of_getElem? (i := 170) rfl) rfl
theorem mV_yX8_count : Cond.selects RX8 yX8_count yX8_count ∈ zTbl := zin4 (List.mem_of_getElem? (i := 171) rfl) rfl
theorem mC_yX8_count : Cond.code yX8_count prog_10_method_65_code 2 (Option.some Jvm.ClassFile.FieldType.int) ∈ zTbl := zin4 (List.mem_of_getElem? (i := 172) rfl) rfl
theorem mKL_27 : Cond.constantLong RL 27 (4294967295) ∈ zTbl := zin4 (List.mem_of_getElem? (i := 173) rfl) rfl
theorem zX0_in : ∀ w ∈ u_ws RX0 TX0 2, w ∈ zTbl := fun w h => zmem ((show ∀ w ∈ u_ws RX0 TX0 2, w ∈ lw_tbl by decide +kernel) w h) ((show ∀ w ∈ u_ws RX0 TX0 2, zgood w = true by decide +kernel) w h)
theorem zX1_in : ∀ w ∈ u_ws RX1 TX1 2, w ∈ zTbl := fun w h => zmem ((show ∀ w ∈ u_ws RX1 TX1 2, w ∈ lw_tbl by decide +kernel) w h) ((show ∀ w ∈ u_ws RX1 TX1 2, zgood w = true by decide +kernel) w h)
theorem zX2_in : ∀ w ∈ u_ws RX2 TX2 4, w ∈ zTbl := fun w h => zmem ((show ∀ w ∈ u_ws RX2 TX2 4, w ∈ lw_tbl by decide +kernel) w h) ((show ∀ w ∈ u_ws RX2 TX2 4, zgood w = true by decide +kernel) w h)
theorem zX3_in : ∀ w ∈ u_ws RX3 TX3 2, w ∈ zTbl := fun w h => zmem ((show ∀ w ∈ u_ws RX3 TX3 2, w ∈ lw_tbl by decide +kernel) w h) ((show ∀ w ∈ u_ws RX3 TX3 2, zgood w = true by decide +kernel) w h)
theorem zX4_in : ∀ w ∈ u_ws RX4 TX4 7, w ∈ zTbl := fun w h => zmem ((show ∀ w ∈ u_ws RX4 TX4 7, w ∈ lw_tbl by decide +kernel) w h) ((show ∀ w ∈ u_ws RX4 TX4 7, zgood w = true by decide +kernel) w h)
theorem zX5_in : ∀ w ∈ u_ws RX5 TX5 3, w ∈ zTbl := fun w h => zmem ((show ∀ w ∈ u_ws RX5 TX5 3, w ∈ lw_tbl by decide +kernel) w h) ((show ∀ w ∈ u_ws RX5 TX5 3, zgood w = true by decide +kernel) w h)
theorem zX6_in : ∀ w ∈ u_ws RX6 TX6 3, w ∈ zTbl := fun w h => zmem ((show ∀ w ∈ u_ws RX6 TX6 3, w ∈ lw_tbl by decide +kernel) w h) ((show ∀ w ∈ u_ws RX6 TX6 3, zgood w = true by decide +kernel) w h)
theorem zX7_in : ∀ w ∈ u_ws RX7 TX7 11, w ∈ zTbl := fun w h => zmem ((show ∀ w ∈ u_ws RX7 TX7 11, w ∈ lw_tbl by decide +kernel) w h) ((show ∀ w ∈ u_ws RX7 TX7 11, zgood w = true by decide +kernel) w h)
theorem zX8_in : ∀ w ∈ u_ws RX8 TX8 27, w ∈ zTbl := fun w h => zmem ((show ∀ w ∈ u_ws RX8 TX8 27, w ∈ lw_tbl by decide +kernel) w h) ((show ∀ w ∈ u_ws RX8 TX8 27, zgood w = true by decide +kernel) w h)
