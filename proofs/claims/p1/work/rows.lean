section
-- ===== PART A: goes FIRST, ahead of the names: the tables' words, and 'selects' of the private methods out of them =====
/-- a private method of a class that the tables say can be made, by its rows of tables_1 -/
def lw_okq (q : MethodName × Nat) : Prop := (q.1.cls ≠ "java/lang/invoke/MethodHandle" ∧ q.1.cls ≠ "java/lang/invoke/VarHandle") ∧ Cond.instantiable q.1.cls q.2 ∈ tables_1 ∧ Cond.privateMethod q.1 ∈ tables_1 ∧ Cond.instanceMethod q.1 ∈ tables_1
theorem lw_p0 : lw_okq (⟨"KindRows$Figures", "hashOf", "(LKindRows$Figure;)I"⟩, 3) := ⟨⟨by decide +kernel, by decide +kernel⟩, List.mem_of_getElem? (i := 45) (by decide +kernel), List.mem_of_getElem? (i := 211) (by decide +kernel), List.mem_of_getElem? (i := 212) (by decide +kernel)⟩
theorem lw_p1 : lw_okq (⟨"KindRows$Figures", "hashOfNumbered", "(J)I"⟩, 3) := ⟨⟨by decide +kernel, by decide +kernel⟩, List.mem_of_getElem? (i := 45) (by decide +kernel), List.mem_of_getElem? (i := 215) (by decide +kernel), List.mem_of_getElem? (i := 216) (by decide +kernel)⟩
theorem lw_p2 : lw_okq (⟨"KindRows$Figures", "rank", "(LKindRows$Figure;)V"⟩, 3) := ⟨⟨by decide +kernel, by decide +kernel⟩, List.mem_of_getElem? (i := 45) (by decide +kernel), List.mem_of_getElem? (i := 223) (by decide +kernel), List.mem_of_getElem? (i := 224) (by decide +kernel)⟩
theorem lw_p3 : lw_okq (⟨"KindRows$Figures", "compare", "(LKindRows$Figure;LKindRows$Figure;)I"⟩, 3) := ⟨⟨by decide +kernel, by decide +kernel⟩, List.mem_of_getElem? (i := 45) (by decide +kernel), List.mem_of_getElem? (i := 227) (by decide +kernel), List.mem_of_getElem? (i := 228) (by decide +kernel)⟩
theorem lw_p4 : lw_okq (⟨"KindRows$Figures", "compareFrom", "(ILKindRows$Figure;LKindRows$Figure;)I"⟩, 3) := ⟨⟨by decide +kernel, by decide +kernel⟩, List.mem_of_getElem? (i := 45) (by decide +kernel), List.mem_of_getElem? (i := 234) (by decide +kernel), List.mem_of_getElem? (i := 235) (by decide +kernel)⟩
theorem lw_p5 : lw_okq (⟨"KindRows$Figures", "sortKey", "(IJ)J"⟩, 3) := ⟨⟨by decide +kernel, by decide +kernel⟩, List.mem_of_getElem? (i := 45) (by decide +kernel), List.mem_of_getElem? (i := 241) (by decide +kernel), List.mem_of_getElem? (i := 242) (by decide +kernel)⟩
theorem lw_p6 : lw_okq (⟨"KindRows", "numberAt", "(I)I"⟩, 11) := ⟨⟨by decide +kernel, by decide +kernel⟩, List.mem_of_getElem? (i := 14) (by decide +kernel), List.mem_of_getElem? (i := 292) (by decide +kernel), List.mem_of_getElem? (i := 293) (by decide +kernel)⟩
theorem lw_p7 : lw_okq (⟨"KindRows", "rowParts", "(III)[J"⟩, 11) := ⟨⟨by decide +kernel, by decide +kernel⟩, List.mem_of_getElem? (i := 14) (by decide +kernel), List.mem_of_getElem? (i := 296) (by decide +kernel), List.mem_of_getElem? (i := 297) (by decide +kernel)⟩
theorem lw_p8 : lw_okq (⟨"KindRows", "findFamily", "(I)LKindRows$Family;"⟩, 11) := ⟨⟨by decide +kernel, by decide +kernel⟩, List.mem_of_getElem? (i := 14) (by decide +kernel), List.mem_of_getElem? (i := 417) (by decide +kernel), List.mem_of_getElem? (i := 418) (by decide +kernel)⟩
theorem lw_p9 : lw_okq (⟨"KindRows", "findEnumeration", "(I)LKindRows$Enumeration;"⟩, 11) := ⟨⟨by decide +kernel, by decide +kernel⟩, List.mem_of_getElem? (i := 14) (by decide +kernel), List.mem_of_getElem? (i := 434) (by decide +kernel), List.mem_of_getElem? (i := 435) (by decide +kernel)⟩
theorem lw_p10 : lw_okq (⟨"KindRows", "memberNamed", "(LKindRows$Enumeration;I)I"⟩, 11) := ⟨⟨by decide +kernel, by decide +kernel⟩, List.mem_of_getElem? (i := 14) (by decide +kernel), List.mem_of_getElem? (i := 438) (by decide +kernel), List.mem_of_getElem? (i := 439) (by decide +kernel)⟩
theorem lw_p11 : lw_okq (⟨"KindRows", "findConstant", "(I)LKindRows$Constant;"⟩, 11) := ⟨⟨by decide +kernel, by decide +kernel⟩, List.mem_of_getElem? (i := 14) (by decide +kernel), List.mem_of_getElem? (i := 442) (by decide +kernel), List.mem_of_getElem? (i := 443) (by decide +kernel)⟩
theorem lw_p12 : lw_okq (⟨"KindRows", "homeOf", "(I)LKindRows$Enumeration;"⟩, 11) := ⟨⟨by decide +kernel, by decide +kernel⟩, List.mem_of_getElem? (i := 14) (by decide +kernel), List.mem_of_getElem? (i := 472) (by decide +kernel), List.mem_of_getElem? (i := 473) (by decide +kernel)⟩
theorem lw_p13 : lw_okq (⟨"KindRows", "drawBelow", "(I)I"⟩, 11) := ⟨⟨by decide +kernel, by decide +kernel⟩, List.mem_of_getElem? (i := 14) (by decide +kernel), List.mem_of_getElem? (i := 488) (by decide +kernel), List.mem_of_getElem? (i := 489) (by decide +kernel)⟩
theorem lw_p14 : lw_okq (⟨"KindRows$Keys", "placeOf", "(I)I"⟩, 3) := ⟨⟨by decide +kernel, by decide +kernel⟩, List.mem_of_getElem? (i := 70) (by decide +kernel), List.mem_of_getElem? (i := 521) (by decide +kernel), List.mem_of_getElem? (i := 522) (by decide +kernel)⟩
theorem lw_p15 : lw_okq (⟨"KindRows", "membersOfAll", "()I"⟩, 11) := ⟨⟨by decide +kernel, by decide +kernel⟩, List.mem_of_getElem? (i := 14) (by decide +kernel), List.mem_of_getElem? (i := 537) (by decide +kernel), List.mem_of_getElem? (i := 538) (by decide +kernel)⟩
def lw_privs_1 : List (MethodName × Nat) := [(⟨"KindRows$Figures", "hashOf", "(LKindRows$Figure;)I"⟩, 3), (⟨"KindRows$Figures", "hashOfNumbered", "(J)I"⟩, 3), (⟨"KindRows$Figures", "rank", "(LKindRows$Figure;)V"⟩, 3), (⟨"KindRows$Figures", "compare", "(LKindRows$Figure;LKindRows$Figure;)I"⟩, 3), (⟨"KindRows$Figures", "compareFrom", "(ILKindRows$Figure;LKindRows$Figure;)I"⟩, 3), (⟨"KindRows$Figures", "sortKey", "(IJ)J"⟩, 3), (⟨"KindRows", "numberAt", "(I)I"⟩, 11), (⟨"KindRows", "rowParts", "(III)[J"⟩, 11), (⟨"KindRows", "findFamily", "(I)LKindRows$Family;"⟩, 11), (⟨"KindRows", "findEnumeration", "(I)LKindRows$Enumeration;"⟩, 11), (⟨"KindRows", "memberNamed", "(LKindRows$Enumeration;I)I"⟩, 11), (⟨"KindRows", "findConstant", "(I)LKindRows$Constant;"⟩, 11), (⟨"KindRows", "homeOf", "(I)LKindRows$Enumeration;"⟩, 11), (⟨"KindRows", "drawBelow", "(I)I"⟩, 11), (⟨"KindRows$Keys", "placeOf", "(I)I"⟩, 3), (⟨"KindRows", "membersOfAll", "()I"⟩, 11)]
theorem lw_r1 : ∀ q ∈ lw_privs_1, lw_okq q := List.forall_mem_cons.mpr ⟨lw_p0, List.forall_mem_cons.mpr ⟨lw_p1, List.forall_mem_cons.mpr ⟨lw_p2, List.forall_mem_cons.mpr ⟨lw_p3, List.forall_mem_cons.mpr ⟨lw_p4, List.forall_mem_cons.mpr ⟨lw_p5, List.forall_mem_cons.mpr ⟨lw_p6, List.forall_mem_cons.mpr ⟨lw_p7, List.forall_mem_cons.mpr ⟨lw_p8, List.forall_mem_cons.mpr ⟨lw_p9, List.forall_mem_cons.mpr ⟨lw_p10, List.forall_mem_cons.mpr ⟨lw_p11, List.forall_mem_cons.mpr ⟨lw_p12, List.forall_mem_cons.mpr ⟨lw_p13, List.forall_mem_cons.mpr ⟨lw_p14, List.forall_mem_cons.mpr ⟨lw_p15, fun _ h => absurd h List.not_mem_nil⟩⟩⟩⟩⟩⟩⟩⟩⟩⟩⟩⟩⟩⟩⟩⟩
theorem lw_p16 : lw_okq (⟨"KindRowsModel", "begin", "()V"⟩, 27) := ⟨⟨by decide +kernel, by decide +kernel⟩, List.mem_of_getElem? (i := 545) (by decide +kernel), List.mem_of_getElem? (i := 650) (by decide +kernel), List.mem_of_getElem? (i := 651) (by decide +kernel)⟩
theorem lw_p17 : lw_okq (⟨"KindRowsModel", "start", "(I)V"⟩, 27) := ⟨⟨by decide +kernel, by decide +kernel⟩, List.mem_of_getElem? (i := 545) (by decide +kernel), List.mem_of_getElem? (i := 654) (by decide +kernel), List.mem_of_getElem? (i := 655) (by decide +kernel)⟩
theorem lw_p18 : lw_okq (⟨"KindRowsModel", "part", "(J)V"⟩, 27) := ⟨⟨by decide +kernel, by decide +kernel⟩, List.mem_of_getElem? (i := 545) (by decide +kernel), List.mem_of_getElem? (i := 664) (by decide +kernel), List.mem_of_getElem? (i := 665) (by decide +kernel)⟩
theorem lw_p19 : lw_okq (⟨"KindRowsModel", "made", "()I"⟩, 27) := ⟨⟨by decide +kernel, by decide +kernel⟩, List.mem_of_getElem? (i := 545) (by decide +kernel), List.mem_of_getElem? (i := 668) (by decide +kernel), List.mem_of_getElem? (i := 669) (by decide +kernel)⟩
theorem lw_p20 : lw_okq (⟨"KindRowsModel", "leastLike", "(I)I"⟩, 27) := ⟨⟨by decide +kernel, by decide +kernel⟩, List.mem_of_getElem? (i := 545) (by decide +kernel), List.mem_of_getElem? (i := 672) (by decide +kernel), List.mem_of_getElem? (i := 673) (by decide +kernel)⟩
theorem lw_p21 : lw_okq (⟨"KindRowsModel", "isFigurePart", "(I)Z"⟩, 27) := ⟨⟨by decide +kernel, by decide +kernel⟩, List.mem_of_getElem? (i := 545) (by decide +kernel), List.mem_of_getElem? (i := 676) (by decide +kernel), List.mem_of_getElem? (i := 677) (by decide +kernel)⟩
theorem lw_p22 : lw_okq (⟨"KindRowsModel", "cellOf", "(II)J"⟩, 27) := ⟨⟨by decide +kernel, by decide +kernel⟩, List.mem_of_getElem? (i := 545) (by decide +kernel), List.mem_of_getElem? (i := 680) (by decide +kernel), List.mem_of_getElem? (i := 681) (by decide +kernel)⟩
theorem lw_p23 : lw_okq (⟨"KindRowsModel", "likeOf", "(J)I"⟩, 27) := ⟨⟨by decide +kernel, by decide +kernel⟩, List.mem_of_getElem? (i := 545) (by decide +kernel), List.mem_of_getElem? (i := 684) (by decide +kernel), List.mem_of_getElem? (i := 685) (by decide +kernel)⟩
theorem lw_p24 : lw_okq (⟨"KindRowsModel", "hashOf", "(I)I"⟩, 27) := ⟨⟨by decide +kernel, by decide +kernel⟩, List.mem_of_getElem? (i := 545) (by decide +kernel), List.mem_of_getElem? (i := 689) (by decide +kernel), List.mem_of_getElem? (i := 690) (by decide +kernel)⟩
theorem lw_p25 : lw_okq (⟨"KindRowsModel", "fails", "(III)I"⟩, 27) := ⟨⟨by decide +kernel, by decide +kernel⟩, List.mem_of_getElem? (i := 545) (by decide +kernel), List.mem_of_getElem? (i := 700) (by decide +kernel), List.mem_of_getElem? (i := 701) (by decide +kernel)⟩
theorem lw_p26 : lw_okq (⟨"KindRowsModel", "isFigure", "(I)Z"⟩, 27) := ⟨⟨by decide +kernel, by decide +kernel⟩, List.mem_of_getElem? (i := 545) (by decide +kernel), List.mem_of_getElem? (i := 716) (by decide +kernel), List.mem_of_getElem? (i := 717) (by decide +kernel)⟩
theorem lw_p27 : lw_okq (⟨"KindRowsModel", "laid", "(I)I"⟩, 27) := ⟨⟨by decide +kernel, by decide +kernel⟩, List.mem_of_getElem? (i := 545) (by decide +kernel), List.mem_of_getElem? (i := 724) (by decide +kernel), List.mem_of_getElem? (i := 725) (by decide +kernel)⟩
theorem lw_p28 : lw_okq (⟨"KindRowsModel", "hasPlace", "(II)Z"⟩, 27) := ⟨⟨by decide +kernel, by decide +kernel⟩, List.mem_of_getElem? (i := 545) (by decide +kernel), List.mem_of_getElem? (i := 736) (by decide +kernel), List.mem_of_getElem? (i := 737) (by decide +kernel)⟩
theorem lw_p29 : lw_okq (⟨"KindRowsModel", "at", "(IIJ)J"⟩, 27) := ⟨⟨by decide +kernel, by decide +kernel⟩, List.mem_of_getElem? (i := 545) (by decide +kernel), List.mem_of_getElem? (i := 757) (by decide +kernel), List.mem_of_getElem? (i := 758) (by decide +kernel)⟩
theorem lw_p30 : lw_okq (⟨"KindRowsModel", "weightOf", "(I)J"⟩, 27) := ⟨⟨by decide +kernel, by decide +kernel⟩, List.mem_of_getElem? (i := 545) (by decide +kernel), List.mem_of_getElem? (i := 765) (by decide +kernel), List.mem_of_getElem? (i := 766) (by decide +kernel)⟩
theorem lw_p31 : lw_okq (⟨"KindRowsModel", "heavyOf", "(I)J"⟩, 27) := ⟨⟨by decide +kernel, by decide +kernel⟩, List.mem_of_getElem? (i := 545) (by decide +kernel), List.mem_of_getElem? (i := 769) (by decide +kernel), List.mem_of_getElem? (i := 770) (by decide +kernel)⟩
def lw_privs_2 : List (MethodName × Nat) := [(⟨"KindRowsModel", "begin", "()V"⟩, 27), (⟨"KindRowsModel", "start", "(I)V"⟩, 27), (⟨"KindRowsModel", "part", "(J)V"⟩, 27), (⟨"KindRowsModel", "made", "()I"⟩, 27), (⟨"KindRowsModel", "leastLike", "(I)I"⟩, 27), (⟨"KindRowsModel", "isFigurePart", "(I)Z"⟩, 27), (⟨"KindRowsModel", "cellOf", "(II)J"⟩, 27), (⟨"KindRowsModel", "likeOf", "(J)I"⟩, 27), (⟨"KindRowsModel", "hashOf", "(I)I"⟩, 27), (⟨"KindRowsModel", "fails", "(III)I"⟩, 27), (⟨"KindRowsModel", "isFigure", "(I)Z"⟩, 27), (⟨"KindRowsModel", "laid", "(I)I"⟩, 27), (⟨"KindRowsModel", "hasPlace", "(II)Z"⟩, 27), (⟨"KindRowsModel", "at", "(IIJ)J"⟩, 27), (⟨"KindRowsModel", "weightOf", "(I)J"⟩, 27), (⟨"KindRowsModel", "heavyOf", "(I)J"⟩, 27)]
theorem lw_r2 : ∀ q ∈ lw_privs_2, lw_okq q := List.forall_mem_cons.mpr ⟨lw_p16, List.forall_mem_cons.mpr ⟨lw_p17, List.forall_mem_cons.mpr ⟨lw_p18, List.forall_mem_cons.mpr ⟨lw_p19, List.forall_mem_cons.mpr ⟨lw_p20, List.forall_mem_cons.mpr ⟨lw_p21, List.forall_mem_cons.mpr ⟨lw_p22, List.forall_mem_cons.mpr ⟨lw_p23, List.forall_mem_cons.mpr ⟨lw_p24, List.forall_mem_cons.mpr ⟨lw_p25, List.forall_mem_cons.mpr ⟨lw_p26, List.forall_mem_cons.mpr ⟨lw_p27, List.forall_mem_cons.mpr ⟨lw_p28, List.forall_mem_cons.mpr ⟨lw_p29, List.forall_mem_cons.mpr ⟨lw_p30, List.forall_mem_cons.mpr ⟨lw_p31, fun _ h => absurd h List.not_mem_nil⟩⟩⟩⟩⟩⟩⟩⟩⟩⟩⟩⟩⟩⟩⟩⟩
theorem lw_p32 : lw_okq (⟨"KindRowsModel", "ordered", "(II)I"⟩, 27) := ⟨⟨by decide +kernel, by decide +kernel⟩, List.mem_of_getElem? (i := 545) (by decide +kernel), List.mem_of_getElem? (i := 791) (by decide +kernel), List.mem_of_getElem? (i := 792) (by decide +kernel)⟩
theorem lw_p33 : lw_okq (⟨"KindRowsModel", "compared", "(II)I"⟩, 27) := ⟨⟨by decide +kernel, by decide +kernel⟩, List.mem_of_getElem? (i := 545) (by decide +kernel), List.mem_of_getElem? (i := 795) (by decide +kernel), List.mem_of_getElem? (i := 796) (by decide +kernel)⟩
theorem lw_p34 : lw_okq (⟨"KindRowsModel", "byRows", "(II)I"⟩, 27) := ⟨⟨by decide +kernel, by decide +kernel⟩, List.mem_of_getElem? (i := 545) (by decide +kernel), List.mem_of_getElem? (i := 802) (by decide +kernel), List.mem_of_getElem? (i := 803) (by decide +kernel)⟩
theorem lw_p35 : lw_okq (⟨"KindRowsModel", "tagOf", "(II)I"⟩, 27) := ⟨⟨by decide +kernel, by decide +kernel⟩, List.mem_of_getElem? (i := 545) (by decide +kernel), List.mem_of_getElem? (i := 824) (by decide +kernel), List.mem_of_getElem? (i := 825) (by decide +kernel)⟩
theorem lw_p36 : lw_okq (⟨"KindRowsModel", "constantOf", "(II)I"⟩, 27) := ⟨⟨by decide +kernel, by decide +kernel⟩, List.mem_of_getElem? (i := 545) (by decide +kernel), List.mem_of_getElem? (i := 839) (by decide +kernel), List.mem_of_getElem? (i := 840) (by decide +kernel)⟩
theorem lw_p37 : lw_okq (⟨"KindRowsModel", "isConstant", "(I)Z"⟩, 27) := ⟨⟨by decide +kernel, by decide +kernel⟩, List.mem_of_getElem? (i := 545) (by decide +kernel), List.mem_of_getElem? (i := 851) (by decide +kernel), List.mem_of_getElem? (i := 852) (by decide +kernel)⟩
theorem lw_p38 : lw_okq (⟨"KindRowsModel", "constantAt", "(II)I"⟩, 27) := ⟨⟨by decide +kernel, by decide +kernel⟩, List.mem_of_getElem? (i := 545) (by decide +kernel), List.mem_of_getElem? (i := 861) (by decide +kernel), List.mem_of_getElem? (i := 862) (by decide +kernel)⟩
theorem lw_p39 : lw_okq (⟨"KindRowsModel", "keyOf", "(I)I"⟩, 27) := ⟨⟨by decide +kernel, by decide +kernel⟩, List.mem_of_getElem? (i := 545) (by decide +kernel), List.mem_of_getElem? (i := 882) (by decide +kernel), List.mem_of_getElem? (i := 883) (by decide +kernel)⟩
def lw_privs_3 : List (MethodName × Nat) := [(⟨"KindRowsModel", "ordered", "(II)I"⟩, 27), (⟨"KindRowsModel", "compared", "(II)I"⟩, 27), (⟨"KindRowsModel", "byRows", "(II)I"⟩, 27), (⟨"KindRowsModel", "tagOf", "(II)I"⟩, 27), (⟨"KindRowsModel", "constantOf", "(II)I"⟩, 27), (⟨"KindRowsModel", "isConstant", "(I)Z"⟩, 27), (⟨"KindRowsModel", "constantAt", "(II)I"⟩, 27), (⟨"KindRowsModel", "keyOf", "(I)I"⟩, 27)]
theorem lw_r3 : ∀ q ∈ lw_privs_3, lw_okq q := List.forall_mem_cons.mpr ⟨lw_p32, List.forall_mem_cons.mpr ⟨lw_p33, List.forall_mem_cons.mpr ⟨lw_p34, List.forall_mem_cons.mpr ⟨lw_p35, List.forall_mem_cons.mpr ⟨lw_p36, List.forall_mem_cons.mpr ⟨lw_p37, List.forall_mem_cons.mpr ⟨lw_p38, List.forall_mem_cons.mpr ⟨lw_p39, fun _ h => absurd h List.not_mem_nil⟩⟩⟩⟩⟩⟩⟩⟩
def lw_privs : List (MethodName × Nat) := lw_privs_1 ++ (lw_privs_2 ++ (lw_privs_3))
def lw_tbl : List Cond := k2_sels lw_privs ++ tables_1
theorem lw_privs_ok : ∀ q ∈ lw_privs, lw_okq q := by
  show ∀ q ∈ lw_privs_1 ++ (lw_privs_2 ++ (lw_privs_3)), lw_okq q
  exact List.forall_mem_append.mpr ⟨lw_r1, List.forall_mem_append.mpr ⟨lw_r2, lw_r3⟩⟩
def RX0 : String := "KindRows$Constant"
def TX0 : u_T := fun k => match k with
  | 0 => ("KindRows$Constant", "enumeration", "I", true)
  | _ => ("KindRows$Constant", "name", "I", true)
def tyX0 : Nat → FieldType := fun k => match k with
  | 0 => .int
  | _ => .int
theorem nmX0 : ∀ a, a < 2 → ∀ b, b < 2 → a ≠ b → (TX0 a).2.1 ≠ (TX0 b).2.1 := by decide +kernel
theorem tyX0_ok : ∀ k, k < 2 → parseFieldDescriptor (TX0 k).2.2.1 = some (tyX0 k) := by decide +kernel
abbrev cX0_init : ByteArray := prog_2_method_1_code
def yX0_init : MethodName := ⟨RX0, "<init>", "(II)V"⟩
def RX1 : String := "KindRows$Enumeration"
def TX1 : u_T := fun k => match k with
  | 0 => ("KindRows$Enumeration", "members", "[I", true)
  | _ => ("KindRows$Enumeration", "size", "I", false)
def tyX1 : Nat → FieldType := fun k => match k with
  | 0 => .array .int
  | _ => .int
theorem nmX1 : ∀ a, a < 2 → ∀ b, b < 2 → a ≠ b → (TX1 a).2.1 ≠ (TX1 b).2.1 := by decide +kernel
theorem tyX1_ok : ∀ k, k < 2 → parseFieldDescriptor (TX1 k).2.2.1 = some (tyX1 k) := by decide +kernel
abbrev cX1_init : ByteArray := prog_3_method_1_code
def yX1_init : MethodName := ⟨RX1, "<init>", "()V"⟩
abbrev cX1_append : ByteArray := prog_3_method_2_code
def yX1_append : MethodName := ⟨RX1, "append", "(I)V"⟩
abbrev cX1_remove : ByteArray := prog_3_method_3_code
def yX1_remove : MethodName := ⟨RX1, "remove", "(I)V"⟩
abbrev cX1_placeOf : ByteArray := prog_3_method_4_code
def yX1_placeOf : MethodName := ⟨RX1, "placeOf", "(I)I"⟩
abbrev cX1_exchange : ByteArray := prog_3_method_5_code
def yX1_exchange : MethodName := ⟨RX1, "exchange", "(II)V"⟩
def RX2 : String := "KindRows$Failures"
def TX2 : u_T := fun k => match k with
  | 0 => ("KindRows$Failures", "latest", "I", false)
  | 1 => ("KindRows$Failures", "latestPart", "I", false)
  | 2 => ("KindRows$Failures", "latestOwn", "I", false)
  | _ => ("KindRows$Failures", "ever", "[I", true)
def tyX2 : Nat → FieldType := fun k => match k with
  | 0 => .int
  | 1 => .int
  | 2 => .int
  | _ => .array .int
theorem nmX2 : ∀ a, a < 4 → ∀ b, b < 4 → a ≠ b → (TX2 a).2.1 ≠ (TX2 b).2.1 := by decide +kernel
theorem tyX2_ok : ∀ k, k < 4 → parseFieldDescriptor (TX2 k).2.2.1 = some (tyX2 k) := by decide +kernel
abbrev cX2_init : ByteArray := prog_4_method_1_code
def yX2_init : MethodName := ⟨RX2, "<init>", "()V"⟩
abbrev cX2_none : ByteArray := prog_4_method_2_code
def yX2_none : MethodName := ⟨RX2, "none", "()V"⟩
abbrev cX2_own : ByteArray := prog_4_method_3_code
def yX2_own : MethodName := ⟨RX2, "own", "(II)I"⟩
abbrev cX2_inNoPart : ByteArray := prog_4_method_4_code
def yX2_inNoPart : MethodName := ⟨RX2, "inNoPart", "(I)I"⟩
abbrev cX2_inPart : ByteArray := prog_4_method_5_code
def yX2_inPart : MethodName := ⟨RX2, "inPart", "(II)I"⟩
abbrev cX2_everOf : ByteArray := prog_4_method_6_code
def yX2_everOf : MethodName := ⟨RX2, "everOf", "(I)I"⟩
def RX3 : String := "KindRows$Family"
def TX3 : u_T := fun k => match k with
  | 0 => ("KindRows$Family", "kinds", "[I", true)
  | _ => ("KindRows$Family", "size", "I", false)
def tyX3 : Nat → FieldType := fun k => match k with
  | 0 => .array .int
  | _ => .int
theorem nmX3 : ∀ a, a < 2 → ∀ b, b < 2 → a ≠ b → (TX3 a).2.1 ≠ (TX3 b).2.1 := by decide +kernel
theorem tyX3_ok : ∀ k, k < 2 → parseFieldDescriptor (TX3 k).2.2.1 = some (tyX3 k) := by decide +kernel
abbrev cX3_init : ByteArray := prog_5_method_1_code
def yX3_init : MethodName := ⟨RX3, "<init>", "([I)V"⟩
abbrev cX3_tagOf : ByteArray := prog_5_method_2_code
def yX3_tagOf : MethodName := ⟨RX3, "tagOf", "(LKindRows$Figure;)I"⟩
def RX4 : String := "KindRows$Figure"
def TX4 : u_T := fun k => match k with
  | 0 => ("KindRows$Figure", "kind", "I", true)
  | 1 => ("KindRows$Figure", "parts", "[J", true)
  | 2 => ("KindRows$Figure", "weight", "J", false)
  | 3 => ("KindRows$Figure", "wideAlone", "Z", false)
  | 4 => ("KindRows$Figure", "number", "I", false)
  | 5 => ("KindRows$Figure", "hash", "I", false)
  | _ => ("KindRows$Figure", "before", "I", false)
def tyX4 : Nat → FieldType := fun k => match k with
  | 0 => .int
  | 1 => .array .long
  | 2 => .long
  | 3 => .boolean
  | 4 => .int
  | 5 => .int
  | _ => .int
theorem nmX4 : ∀ a, a < 7 → ∀ b, b < 7 → a ≠ b → (TX4 a).2.1 ≠ (TX4 b).2.1 := by decide +kernel
theorem tyX4_ok : ∀ k, k < 7 → parseFieldDescriptor (TX4 k).2.2.1 = some (tyX4 k) := by decide +kernel
abbrev cX4_init : ByteArray := prog_6_method_1_code
def yX4_init : MethodName := ⟨RX4, "<init>", "(I[JJ)V"⟩
abbrev cX4_isOf : ByteArray := prog_6_method_2_code
def yX4_isOf : MethodName := ⟨RX4, "isOf", "(I)Z"⟩
abbrev cX4_isLike : ByteArray := prog_6_method_3_code
def yX4_isLike : MethodName := ⟨RX4, "isLike", "(LKindRows$Figure;)Z"⟩
abbrev cX4_hasPlace : ByteArray := prog_6_method_4_code
def yX4_hasPlace : MethodName := ⟨RX4, "hasPlace", "(I)Z"⟩
abbrev cX4_hold : ByteArray := prog_6_method_5_code
def yX4_hold : MethodName := ⟨RX4, "hold", "(II)V"⟩
abbrev cX4_heavyWeight : ByteArray := prog_6_method_6_code
def yX4_heavyWeight : MethodName := ⟨RX4, "heavyWeight", "()J"⟩
def RX5 : String := "KindRows$Figures"
def TX5 : u_T := fun k => match k with
  | 0 => ("KindRows$Figures", "all", "[LKindRows$Figure;", true)
  | 1 => ("KindRows$Figures", "ranking", "[LKindRows$Figure;", true)
  | _ => ("KindRows$Figures", "count", "I", false)
def tyX5 : Nat → FieldType := fun k => match k with
  | 0 => .array (.object "KindRows$Figure")
  | 1 => .array (.object "KindRows$Figure")
  | _ => .int
theorem nmX5 : ∀ a, a < 3 → ∀ b, b < 3 → a ≠ b → (TX5 a).2.1 ≠ (TX5 b).2.1 := by decide +kernel
theorem tyX5_ok : ∀ k, k < 3 → parseFieldDescriptor (TX5 k).2.2.1 = some (tyX5 k) := by decide +kernel
abbrev cX5_init : ByteArray := prog_7_method_1_code
def yX5_init : MethodName := ⟨RX5, "<init>", "()V"⟩
abbrev cX5_isFull : ByteArray := prog_7_method_2_code
def yX5_isFull : MethodName := ⟨RX5, "isFull", "()Z"⟩
abbrev cX5_find : ByteArray := prog_7_method_3_code
def yX5_find : MethodName := ⟨RX5, "find", "(J)LKindRows$Figure;"⟩
abbrev cX5_hasOrNone : ByteArray := prog_7_method_4_code
def yX5_hasOrNone : MethodName := ⟨RX5, "hasOrNone", "(I)Z"⟩
abbrev cX5_add : ByteArray := prog_7_method_5_code
def yX5_add : MethodName := ⟨RX5, "add", "(LKindRows$Figure;)I"⟩
abbrev cX5_weighPairs : ByteArray := prog_7_method_6_code
def yX5_weighPairs : MethodName := ⟨RX5, "weighPairs", "()V"⟩
abbrev cX5_numberRanked : ByteArray := prog_7_method_7_code
def yX5_numberRanked : MethodName := ⟨RX5, "numberRanked", "(I)I"⟩
abbrev cX5_firstLike : ByteArray := prog_7_method_8_code
def yX5_firstLike : MethodName := ⟨RX5, "firstLike", "(LKindRows$Figure;)I"⟩
abbrev cX5_hashOf : ByteArray := prog_7_method_9_code
def yX5_hashOf : MethodName := ⟨RX5, "hashOf", "(LKindRows$Figure;)I"⟩
abbrev cX5_hashOfNumbered : ByteArray := prog_7_method_10_code
def yX5_hashOfNumbered : MethodName := ⟨RX5, "hashOfNumbered", "(J)I"⟩
abbrev cX5_rank : ByteArray := prog_7_method_11_code
def yX5_rank : MethodName := ⟨RX5, "rank", "(LKindRows$Figure;)V"⟩
abbrev cX5_compare : ByteArray := prog_7_method_12_code
def yX5_compare : MethodName := ⟨RX5, "compare", "(LKindRows$Figure;LKindRows$Figure;)I"⟩
abbrev cX5_compareAtK : ByteArray := prog_7_method_13_code
def yX5_compareAtK : MethodName := ⟨RX5, "compareAtK", "(LKindRows$Figure;LKindRows$Figure;)I"⟩
abbrev cX5_compareFrom : ByteArray := prog_7_method_14_code
def yX5_compareFrom : MethodName := ⟨RX5, "compareFrom", "(ILKindRows$Figure;LKindRows$Figure;)I"⟩
abbrev cX5_sortKey : ByteArray := prog_7_method_15_code
def yX5_sortKey : MethodName := ⟨RX5, "sortKey", "(IJ)J"⟩
def RX6 : String := "KindRows$Keys"
def TX6 : u_T := fun k => match k with
  | 0 => ("KindRows$Keys", "known", "[I", true)
  | 1 => ("KindRows$Keys", "values", "[I", true)
  | _ => ("KindRows$Keys", "size", "I", false)
def tyX6 : Nat → FieldType := fun k => match k with
  | 0 => .array .int
  | 1 => .array .int
  | _ => .int
theorem nmX6 : ∀ a, a < 3 → ∀ b, b < 3 → a ≠ b → (TX6 a).2.1 ≠ (TX6 b).2.1 := by decide +kernel
theorem tyX6_ok : ∀ k, k < 3 → parseFieldDescriptor (TX6 k).2.2.1 = some (tyX6 k) := by decide +kernel
abbrev cX6_init : ByteArray := prog_8_method_1_code
def yX6_init : MethodName := ⟨RX6, "<init>", "()V"⟩
abbrev cX6_store : ByteArray := prog_8_method_2_code
def yX6_store : MethodName := ⟨RX6, "store", "(II)I"⟩
abbrev cX6_valueOf : ByteArray := prog_8_method_3_code
def yX6_valueOf : MethodName := ⟨RX6, "valueOf", "(I)I"⟩
abbrev cX6_placeOf : ByteArray := prog_8_method_4_code
def yX6_placeOf : MethodName := ⟨RX6, "placeOf", "(I)I"⟩
def RX7 : String := "KindRows"
def TX7 : u_T := fun k => match k with
  | 0 => ("KindRows", "failures", "LKindRows$Failures;", true)
  | 1 => ("KindRows", "figures", "LKindRows$Figures;", true)
  | 2 => ("KindRows", "numbers", "[I", true)
  | 3 => ("KindRows", "laid", "I", false)
  | 4 => ("KindRows", "families", "[LKindRows$Family;", true)
  | 5 => ("KindRows", "familyCount", "I", false)
  | 6 => ("KindRows", "constants", "[LKindRows$Constant;", true)
  | 7 => ("KindRows", "constantCount", "I", false)
  | 8 => ("KindRows", "enumerations", "[LKindRows$Enumeration;", true)
  | 9 => ("KindRows", "keys", "LKindRows$Keys;", true)
  | _ => ("KindRows", "link", "J", false)
def tyX7 : Nat → FieldType := fun k => match k with
  | 0 => .object "KindRows$Failures"
  | 1 => .object "KindRows$Figures"
  | 2 => .array .int
  | 3 => .int
  | 4 => .array (.object "KindRows$Family")
  | 5 => .int
  | 6 => .array (.object "KindRows$Constant")
  | 7 => .int
  | 8 => .array (.object "KindRows$Enumeration")
  | 9 => .object "KindRows$Keys"
  | _ => .long
theorem nmX7 : ∀ a, a < 11 → ∀ b, b < 11 → a ≠ b → (TX7 a).2.1 ≠ (TX7 b).2.1 := by decide +kernel
theorem tyX7_ok : ∀ k, k < 11 → parseFieldDescriptor (TX7 k).2.2.1 = some (tyX7 k) := by decide +kernel
abbrev cX7_init : ByteArray := prog_1_method_1_code
def yX7_init : MethodName := ⟨RX7, "<init>", "()V"⟩
abbrev cX7_cause : ByteArray := prog_1_method_2_code
def yX7_cause : MethodName := ⟨RX7, "cause", "(I)I"⟩
abbrev cX7_lay : ByteArray := prog_1_method_3_code
def yX7_lay : MethodName := ⟨RX7, "lay", "(I)I"⟩
abbrev cX7_wipe : ByteArray := prog_1_method_4_code
def yX7_wipe : MethodName := ⟨RX7, "wipe", "()I"⟩
abbrev cX7_point : ByteArray := prog_1_method_5_code
def yX7_point : MethodName := ⟨RX7, "point", "(JJ)I"⟩
abbrev cX7_span : ByteArray := prog_1_method_6_code
def yX7_span : MethodName := ⟨RX7, "span", "(II)I"⟩
abbrev cX7_wide : ByteArray := prog_1_method_7_code
def yX7_wide : MethodName := ⟨RX7, "wide", "(III)I"⟩
abbrev cX7_share : ByteArray := prog_1_method_8_code
def yX7_share : MethodName := ⟨RX7, "share", "(JJ)I"⟩
abbrev cX7_pair : ByteArray := prog_1_method_9_code
def yX7_pair : MethodName := ⟨RX7, "pair", "(II)I"⟩
abbrev cX7_row : ByteArray := prog_1_method_10_code
def yX7_row : MethodName := ⟨RX7, "row", "(II)I"⟩
abbrev cX7_shelf : ByteArray := prog_1_method_11_code
def yX7_shelf : MethodName := ⟨RX7, "shelf", "(ZI)I"⟩
abbrev cX7_set : ByteArray := prog_1_method_12_code
def yX7_set : MethodName := ⟨RX7, "set", "(III)I"⟩
abbrev cX7_at : ByteArray := prog_1_method_13_code
def yX7_at : MethodName := ⟨RX7, "at", "(II)I"⟩
abbrev cX7_kind : ByteArray := prog_1_method_14_code
def yX7_kind : MethodName := ⟨RX7, "kind", "(I)I"⟩
abbrev cX7_parts : ByteArray := prog_1_method_15_code
def yX7_parts : MethodName := ⟨RX7, "parts", "(I)I"⟩
abbrev cX7_part : ByteArray := prog_1_method_16_code
def yX7_part : MethodName := ⟨RX7, "part", "(II)J"⟩
abbrev cX7_weight : ByteArray := prog_1_method_17_code
def yX7_weight : MethodName := ⟨RX7, "weight", "(IZ)J"⟩
abbrev cX7_equal : ByteArray := prog_1_method_18_code
def yX7_equal : MethodName := ⟨RX7, "equal", "(II)I"⟩
abbrev cX7_hash : ByteArray := prog_1_method_19_code
def yX7_hash : MethodName := ⟨RX7, "hash", "(I)I"⟩
abbrev cX7_order : ByteArray := prog_1_method_20_code
def yX7_order : MethodName := ⟨RX7, "order", "(II)I"⟩
abbrev cX7_ranked : ByteArray := prog_1_method_21_code
def yX7_ranked : MethodName := ⟨RX7, "ranked", "(I)I"⟩
abbrev cX7_first : ByteArray := prog_1_method_22_code
def yX7_first : MethodName := ⟨RX7, "first", "(I)I"⟩
abbrev cX7_family : ByteArray := prog_1_method_23_code
def yX7_family : MethodName := ⟨RX7, "family", "(IIII)I"⟩
abbrev cX7_tag : ByteArray := prog_1_method_24_code
def yX7_tag : MethodName := ⟨RX7, "tag", "(II)I"⟩
abbrev cX7_tagged : ByteArray := prog_1_method_25_code
def yX7_tagged : MethodName := ⟨RX7, "tagged", "(II)I"⟩
abbrev cX7_constant : ByteArray := prog_1_method_26_code
def yX7_constant : MethodName := ⟨RX7, "constant", "(II)I"⟩
abbrev cX7_named : ByteArray := prog_1_method_27_code
def yX7_named : MethodName := ⟨RX7, "named", "(II)I"⟩
abbrev cX7_drop : ByteArray := prog_1_method_28_code
def yX7_drop : MethodName := ⟨RX7, "drop", "(I)I"⟩
abbrev cX7_reorder : ByteArray := prog_1_method_29_code
def yX7_reorder : MethodName := ⟨RX7, "reorder", "(I)I"⟩
abbrev cX7_seed : ByteArray := prog_1_method_30_code
def yX7_seed : MethodName := ⟨RX7, "seed", "(I)I"⟩
abbrev cX7_told : ByteArray := prog_1_method_31_code
def yX7_told : MethodName := ⟨RX7, "told", "(II)I"⟩
abbrev cX7_placed : ByteArray := prog_1_method_32_code
def yX7_placed : MethodName := ⟨RX7, "placed", "(II)I"⟩
abbrev cX7_put : ByteArray := prog_1_method_33_code
def yX7_put : MethodName := ⟨RX7, "put", "(II)I"⟩
abbrev cX7_get : ByteArray := prog_1_method_34_code
def yX7_get : MethodName := ⟨RX7, "get", "(I)I"⟩
abbrev cX7_count : ByteArray := prog_1_method_35_code
def yX7_count : MethodName := ⟨RX7, "count", "(I)I"⟩
abbrev cX7_oneNan : ByteArray := prog_1_method_36_code
def yX7_oneNan : MethodName := ⟨RX7, "oneNan", "(J)J"⟩
abbrev cX7_lengthOf : ByteArray := prog_1_method_37_code
def yX7_lengthOf : MethodName := ⟨RX7, "lengthOf", "(II)J"⟩
abbrev cX7_numberAt : ByteArray := prog_1_method_38_code
def yX7_numberAt : MethodName := ⟨RX7, "numberAt", "(I)I"⟩
abbrev cX7_rowParts : ByteArray := prog_1_method_39_code
def yX7_rowParts : MethodName := ⟨RX7, "rowParts", "(III)[J"⟩
abbrev cX7_areKindsOnce : ByteArray := prog_1_method_40_code
def yX7_areKindsOnce : MethodName := ⟨RX7, "areKindsOnce", "([I)Z"⟩
abbrev cX7_findFamily : ByteArray := prog_1_method_41_code
def yX7_findFamily : MethodName := ⟨RX7, "findFamily", "(I)LKindRows$Family;"⟩
abbrev cX7_findConstant : ByteArray := prog_1_method_42_code
def yX7_findConstant : MethodName := ⟨RX7, "findConstant", "(I)LKindRows$Constant;"⟩
abbrev cX7_findEnumeration : ByteArray := prog_1_method_43_code
def yX7_findEnumeration : MethodName := ⟨RX7, "findEnumeration", "(I)LKindRows$Enumeration;"⟩
abbrev cX7_homeOf : ByteArray := prog_1_method_44_code
def yX7_homeOf : MethodName := ⟨RX7, "homeOf", "(I)LKindRows$Enumeration;"⟩
abbrev cX7_memberNamed : ByteArray := prog_1_method_45_code
def yX7_memberNamed : MethodName := ⟨RX7, "memberNamed", "(LKindRows$Enumeration;I)I"⟩
abbrev cX7_membersOfAll : ByteArray := prog_1_method_46_code
def yX7_membersOfAll : MethodName := ⟨RX7, "membersOfAll", "()I"⟩
abbrev cX7_drawBelow : ByteArray := prog_1_method_47_code
def yX7_drawBelow : MethodName := ⟨RX7, "drawBelow", "(I)I"⟩
abbrev cX7_keyOf : ByteArray := prog_1_method_48_code
def yX7_keyOf : MethodName := ⟨RX7, "keyOf", "(LKindRows$Constant;)I"⟩
def RX8 : String := "KindRowsModel"
def TX8 : u_T := fun k => match k with
  | 0 => ("KindRowsModel", "failure", "I", false)
  | 1 => ("KindRowsModel", "failPart", "I", false)
  | 2 => ("KindRowsModel", "failOwn", "I", false)
  | 3 => ("KindRowsModel", "ever", "[I", true)
  | 4 => ("KindRowsModel", "numbers", "I", false)
  | 5 => ("KindRowsModel", "number", "[I", true)
  | 6 => ("KindRowsModel", "figures", "I", false)
  | 7 => ("KindRowsModel", "kind", "[I", true)
  | 8 => ("KindRowsModel", "many", "[I", true)
  | 9 => ("KindRowsModel", "cell", "[J", true)
  | 10 => ("KindRowsModel", "isWide", "[Z", true)
  | 11 => ("KindRowsModel", "like", "[I", true)
  | 12 => ("KindRowsModel", "hash", "[I", true)
  | 13 => ("KindRowsModel", "weights", "[J", true)
  | 14 => ("KindRowsModel", "families", "I", false)
  | 15 => ("KindRowsModel", "familyMany", "[I", true)
  | 16 => ("KindRowsModel", "familyKind", "[I", true)
  | 17 => ("KindRowsModel", "constants", "I", false)
  | 18 => ("KindRowsModel", "enumeration", "[I", true)
  | 19 => ("KindRowsModel", "name", "[I", true)
  | 20 => ("KindRowsModel", "placeOf", "[I", true)
  | 21 => ("KindRowsModel", "has", "[I", true)
  | 22 => ("KindRowsModel", "link", "J", false)
  | 23 => ("KindRowsModel", "keys", "I", false)
  | 24 => ("KindRowsModel", "keyEnumeration", "[I", true)
  | 25 => ("KindRowsModel", "keyName", "[I", true)
  | _ => ("KindRowsModel", "keyValue", "[I", true)
def tyX8 : Nat → FieldType := fun k => match k with
  | 0 => .int
  | 1 => .int
  | 2 => .int
  | 3 => .array .int
  | 4 => .int
  | 5 => .array .int
  | 6 => .int
  | 7 => .array .int
  | 8 => .array .int
  | 9 => .array .long
  | 10 => .array .boolean
  | 11 => .array .int
  | 12 => .array .int
  | 13 => .array .long
  | 14 => .int
  | 15 => .array .int
  | 16 => .array .int
  | 17 => .int
  | 18 => .array .int
  | 19 => .array .int
  | 20 => .array .int
  | 21 => .array .int
  | 22 => .long
  | 23 => .int
  | 24 => .array .int
  | 25 => .array .int
  | _ => .array .int
theorem nmX8 : ∀ a, a < 27 → ∀ b, b < 27 → a ≠ b → (TX8 a).2.1 ≠ (TX8 b).2.1 := by decide +kernel
theorem tyX8_ok : ∀ k, k < 27 → parseFieldDescriptor (TX8 k).2.2.1 = some (tyX8 k) := by decide +kernel
abbrev cX8_init : ByteArray := prog_10_method_1_code
def yX8_init : MethodName := ⟨RX8, "<init>", "()V"⟩
abbrev cX8_begin : ByteArray := prog_10_method_2_code
def yX8_begin : MethodName := ⟨RX8, "begin", "()V"⟩
abbrev cX8_fails : ByteArray := prog_10_method_3_code
def yX8_fails : MethodName := ⟨RX8, "fails", "(III)I"⟩
abbrev cX8_cause : ByteArray := prog_10_method_4_code
def yX8_cause : MethodName := ⟨RX8, "cause", "(I)I"⟩
abbrev cX8_lay : ByteArray := prog_10_method_5_code
def yX8_lay : MethodName := ⟨RX8, "lay", "(I)I"⟩
abbrev cX8_wipe : ByteArray := prog_10_method_6_code
def yX8_wipe : MethodName := ⟨RX8, "wipe", "()I"⟩
abbrev cX8_isFigure : ByteArray := prog_10_method_7_code
def yX8_isFigure : MethodName := ⟨RX8, "isFigure", "(I)Z"⟩
abbrev cX8_at : ByteArray := prog_10_method_8_code
def yX8_at : MethodName := ⟨RX8, "at", "(IIJ)J"⟩
abbrev cX8_cellOf : ByteArray := prog_10_method_9_code
def yX8_cellOf : MethodName := ⟨RX8, "cellOf", "(II)J"⟩
abbrev cX8_start : ByteArray := prog_10_method_10_code
def yX8_start : MethodName := ⟨RX8, "start", "(I)V"⟩
abbrev cX8_part : ByteArray := prog_10_method_11_code
def yX8_part : MethodName := ⟨RX8, "part", "(J)V"⟩
abbrev cX8_isFigurePart : ByteArray := prog_10_method_12_code
def yX8_isFigurePart : MethodName := ⟨RX8, "isFigurePart", "(I)Z"⟩
abbrev cX8_leastLike : ByteArray := prog_10_method_13_code
def yX8_leastLike : MethodName := ⟨RX8, "leastLike", "(I)I"⟩
abbrev cX8_likeOf : ByteArray := prog_10_method_14_code
def yX8_likeOf : MethodName := ⟨RX8, "likeOf", "(J)I"⟩
abbrev cX8_folded : ByteArray := prog_10_method_15_code
def yX8_folded : MethodName := ⟨RX8, "folded", "(J)I"⟩
abbrev cX8_hashOf : ByteArray := prog_10_method_16_code
def yX8_hashOf : MethodName := ⟨RX8, "hashOf", "(I)I"⟩
abbrev cX8_made : ByteArray := prog_10_method_17_code
def yX8_made : MethodName := ⟨RX8, "made", "()I"⟩
abbrev cX8_clean : ByteArray := prog_10_method_18_code
def yX8_clean : MethodName := ⟨RX8, "clean", "(J)J"⟩
abbrev cX8_point : ByteArray := prog_10_method_19_code
def yX8_point : MethodName := ⟨RX8, "point", "(JJ)I"⟩
abbrev cX8_span : ByteArray := prog_10_method_20_code
def yX8_span : MethodName := ⟨RX8, "span", "(II)I"⟩
abbrev cX8_wide : ByteArray := prog_10_method_21_code
def yX8_wide : MethodName := ⟨RX8, "wide", "(III)I"⟩
abbrev cX8_share : ByteArray := prog_10_method_22_code
def yX8_share : MethodName := ⟨RX8, "share", "(JJ)I"⟩
abbrev cX8_pair : ByteArray := prog_10_method_23_code
def yX8_pair : MethodName := ⟨RX8, "pair", "(II)I"⟩
abbrev cX8_laid : ByteArray := prog_10_method_24_code
def yX8_laid : MethodName := ⟨RX8, "laid", "(I)I"⟩
abbrev cX8_row : ByteArray := prog_10_method_25_code
def yX8_row : MethodName := ⟨RX8, "row", "(II)I"⟩
abbrev cX8_shelf : ByteArray := prog_10_method_26_code
def yX8_shelf : MethodName := ⟨RX8, "shelf", "(ZI)I"⟩
abbrev cX8_hasPlace : ByteArray := prog_10_method_27_code
def yX8_hasPlace : MethodName := ⟨RX8, "hasPlace", "(II)Z"⟩
abbrev cX8_set : ByteArray := prog_10_method_28_code
def yX8_set : MethodName := ⟨RX8, "set", "(III)I"⟩
abbrev cX8_at_ : ByteArray := prog_10_method_29_code
def yX8_at_ : MethodName := ⟨RX8, "at", "(II)I"⟩
abbrev cX8_kind : ByteArray := prog_10_method_30_code
def yX8_kind : MethodName := ⟨RX8, "kind", "(I)I"⟩
abbrev cX8_parts : ByteArray := prog_10_method_31_code
def yX8_parts : MethodName := ⟨RX8, "parts", "(I)I"⟩
abbrev cX8_part_ : ByteArray := prog_10_method_32_code
def yX8_part_ : MethodName := ⟨RX8, "part", "(II)J"⟩
abbrev cX8_heavyOf : ByteArray := prog_10_method_33_code
def yX8_heavyOf : MethodName := ⟨RX8, "heavyOf", "(I)J"⟩
abbrev cX8_weightOf : ByteArray := prog_10_method_34_code
def yX8_weightOf : MethodName := ⟨RX8, "weightOf", "(I)J"⟩
abbrev cX8_weight : ByteArray := prog_10_method_35_code
def yX8_weight : MethodName := ⟨RX8, "weight", "(IZ)J"⟩
abbrev cX8_equal : ByteArray := prog_10_method_36_code
def yX8_equal : MethodName := ⟨RX8, "equal", "(II)I"⟩
abbrev cX8_hash : ByteArray := prog_10_method_37_code
def yX8_hash : MethodName := ⟨RX8, "hash", "(I)I"⟩
abbrev cX8_first : ByteArray := prog_10_method_38_code
def yX8_first : MethodName := ⟨RX8, "first", "(I)I"⟩
abbrev cX8_by : ByteArray := prog_10_method_39_code
def yX8_by : MethodName := ⟨RX8, "by", "(JJ)I"⟩
abbrev cX8_line : ByteArray := prog_10_method_40_code
def yX8_line : MethodName := ⟨RX8, "line", "(J)J"⟩
abbrev cX8_byRows : ByteArray := prog_10_method_41_code
def yX8_byRows : MethodName := ⟨RX8, "byRows", "(II)I"⟩
abbrev cX8_compared : ByteArray := prog_10_method_42_code
def yX8_compared : MethodName := ⟨RX8, "compared", "(II)I"⟩
abbrev cX8_ordered : ByteArray := prog_10_method_43_code
def yX8_ordered : MethodName := ⟨RX8, "ordered", "(II)I"⟩
abbrev cX8_order : ByteArray := prog_10_method_44_code
def yX8_order : MethodName := ⟨RX8, "order", "(II)I"⟩
abbrev cX8_ranked : ByteArray := prog_10_method_45_code
def yX8_ranked : MethodName := ⟨RX8, "ranked", "(I)I"⟩
abbrev cX8_told4 : ByteArray := prog_10_method_46_code
def yX8_told4 : MethodName := ⟨RX8, "told4", "(IIIII)I"⟩
abbrev cX8_family : ByteArray := prog_10_method_47_code
def yX8_family : MethodName := ⟨RX8, "family", "(IIII)I"⟩
abbrev cX8_tagOf : ByteArray := prog_10_method_48_code
def yX8_tagOf : MethodName := ⟨RX8, "tagOf", "(II)I"⟩
abbrev cX8_tag : ByteArray := prog_10_method_49_code
def yX8_tag : MethodName := ⟨RX8, "tag", "(II)I"⟩
abbrev cX8_tagged : ByteArray := prog_10_method_50_code
def yX8_tagged : MethodName := ⟨RX8, "tagged", "(II)I"⟩
abbrev cX8_isEnumeration : ByteArray := prog_10_method_51_code
def yX8_isEnumeration : MethodName := ⟨RX8, "isEnumeration", "(I)Z"⟩
abbrev cX8_isConstant : ByteArray := prog_10_method_52_code
def yX8_isConstant : MethodName := ⟨RX8, "isConstant", "(I)Z"⟩
abbrev cX8_constantAt : ByteArray := prog_10_method_53_code
def yX8_constantAt : MethodName := ⟨RX8, "constantAt", "(II)I"⟩
abbrev cX8_constantOf : ByteArray := prog_10_method_54_code
def yX8_constantOf : MethodName := ⟨RX8, "constantOf", "(II)I"⟩
abbrev cX8_constant : ByteArray := prog_10_method_55_code
def yX8_constant : MethodName := ⟨RX8, "constant", "(II)I"⟩
abbrev cX8_named : ByteArray := prog_10_method_56_code
def yX8_named : MethodName := ⟨RX8, "named", "(II)I"⟩
abbrev cX8_drop : ByteArray := prog_10_method_57_code
def yX8_drop : MethodName := ⟨RX8, "drop", "(I)I"⟩
abbrev cX8_reorder : ByteArray := prog_10_method_58_code
def yX8_reorder : MethodName := ⟨RX8, "reorder", "(I)I"⟩
abbrev cX8_seed : ByteArray := prog_10_method_59_code
def yX8_seed : MethodName := ⟨RX8, "seed", "(I)I"⟩
abbrev cX8_told : ByteArray := prog_10_method_60_code
def yX8_told : MethodName := ⟨RX8, "told", "(II)I"⟩
abbrev cX8_placed : ByteArray := prog_10_method_61_code
def yX8_placed : MethodName := ⟨RX8, "placed", "(II)I"⟩
abbrev cX8_keyOf : ByteArray := prog_10_method_62_code
def yX8_keyOf : MethodName := ⟨RX8, "keyOf", "(I)I"⟩
abbrev cX8_put : ByteArray := prog_10_method_63_code
def yX8_put : MethodName := ⟨RX8, "put", "(II)I"⟩
abbrev cX8_get : ByteArray := prog_10_method_64_code
def yX8_get : MethodName := ⟨RX8, "get", "(I)I"⟩
abbrev cX8_count : ByteArray := prog_10_method_65_code
def yX8_count : MethodName := ⟨RX8, "count", "(I)I"⟩
def RJ6 : String := "java/lang/Integer"
def TJ6 : u_T := fun k => match k with
  | _ => ("", "", "", false)
def tyJ6 : Nat → FieldType := fun k => match k with
  | _ => .int
theorem nmJ6 : ∀ a, a < 0 → ∀ b, b < 0 → a ≠ b → (TJ6 a).2.1 ≠ (TJ6 b).2.1 := by decide +kernel
theorem tyJ6_ok : ∀ k, k < 0 → parseFieldDescriptor (TJ6 k).2.2.1 = some (tyJ6 k) := by decide +kernel
abbrev cJ6_compare_7cf53 : ByteArray := prog_11_method_40_code
def yJ6_compare_7cf53 : MethodName := ⟨RJ6, "compare", "(II)I"⟩
def RJ13 : String := "java/lang/Long"
def TJ13 : u_T := fun k => match k with
  | _ => ("", "", "", false)
def tyJ13 : Nat → FieldType := fun k => match k with
  | _ => .int
theorem nmJ13 : ∀ a, a < 0 → ∀ b, b < 0 → a ≠ b → (TJ13 a).2.1 ≠ (TJ13 b).2.1 := by decide +kernel
theorem tyJ13_ok : ∀ k, k < 0 → parseFieldDescriptor (TJ13 k).2.2.1 = some (tyJ13 k) := by decide +kernel
abbrev cJ13_compare_74951 : ByteArray := prog_12_method_42_code
def yJ13_compare_74951 : MethodName := ⟨RJ13, "compare", "(JJ)I"⟩
def RJ9 : String := "java/lang/Math"
def TJ9 : u_T := fun k => match k with
  | _ => ("", "", "", false)
def tyJ9 : Nat → FieldType := fun k => match k with
  | _ => .int
theorem nmJ9 : ∀ a, a < 0 → ∀ b, b < 0 → a ≠ b → (TJ9 a).2.1 ≠ (TJ9 b).2.1 := by decide +kernel
theorem tyJ9_ok : ∀ k, k < 0 → parseFieldDescriptor (TJ9 k).2.2.1 = some (tyJ9 k) := by decide +kernel
abbrev cJ9_abs_067f4 : ByteArray := prog_13_method_61_code
def yJ9_abs_067f4 : MethodName := ⟨RJ9, "abs", "(J)J"⟩
abbrev cJ9_min_7cf53 : ByteArray := prog_13_method_69_code
def yJ9_min_7cf53 : MethodName := ⟨RJ9, "min", "(II)I"⟩
def RL : String := "KindRowsLaw"
abbrev cL_law : ByteArray := code
def yL_law : MethodName := ⟨RL, "law", "([I)Z"⟩
abbrev vwCl : List vw_C := [(RX0, TX0, 2), (RX1, TX1, 2), (RX2, TX2, 4), (RX3, TX3, 2), (RX4, TX4, 7), (RX5, TX5, 3), (RX6, TX6, 3), (RX7, TX7, 11), (RX8, TX8, 27)]
end
section
/-- which words of the tables go with a warmed machine -/
def zgood : Cond → Bool
  | .arrayClass _ => true
  | .fieldLinkNest .. => true
  | .methodLinkNest .. => true
  | .arrayOver (.object _) => true
  | w => w.onTables && w.keeps
def zTbl : List Cond := lw_tbl.filter zgood
theorem zmem {w : Cond} (h : w ∈ lw_tbl) (g : zgood w = true) : w ∈ zTbl := List.mem_filter.mpr ⟨h, g⟩
theorem zintab {w : Cond} (h : w ∈ tables_1) (g : zgood w = true) : w ∈ zTbl := zmem (List.mem_append_right _ h) g
theorem zin1 {w : Cond} (h : w ∈ tables_1_1) (g : zgood w = true) : w ∈ zTbl := zintab (List.mem_append_left _ (h)) g
theorem zin2 {w : Cond} (h : w ∈ tables_1_2) (g : zgood w = true) : w ∈ zTbl := zintab (List.mem_append_right _ (List.mem_append_left _ (h))) g
theorem zin3 {w : Cond} (h : w ∈ tables_1_3) (g : zgood w = true) : w ∈ zTbl := zintab (List.mem_append_right _ (List.mem_append_right _ (List.mem_append_left _ (h)))) g
theorem zin4 {w : Cond} (h : w ∈ tables_1_4) (g : zgood w = true) : w ∈ zTbl := zintab (List.mem_append_right _ (List.mem_append_right _ (List.mem_append_right _ (h)))) g
theorem mV_yX5_hashOf : Cond.selects RX5 yX5_hashOf yX5_hashOf ∈ zTbl := zmem (List.mem_append_left _ (List.mem_of_getElem? (i := 0) (by decide +kernel))) rfl
theorem mV_yX5_hashOfNumbered : Cond.selects RX5 yX5_hashOfNumbered yX5_hashOfNumbered ∈ zTbl := zmem (List.mem_append_left _ (List.mem_of_getElem? (i := 1) (by decide +kernel))) rfl
theorem mV_yX5_rank : Cond.selects RX5 yX5_rank yX5_rank ∈ zTbl := zmem (List.mem_append_left _ (List.mem_of_getElem? (i := 2) (by decide +kernel))) rfl
theorem mV_yX5_compare : Cond.selects RX5 yX5_compare yX5_compare ∈ zTbl := zmem (List.mem_append_left _ (List.mem_of_getElem? (i := 3) (by decide +kernel))) rfl
theorem mV_yX5_compareFrom : Cond.selects RX5 yX5_compareFrom yX5_compareFrom ∈ zTbl := zmem (List.mem_append_left _ (List.mem_of_getElem? (i := 4) (by decide +kernel))) rfl
theorem mV_yX5_sortKey : Cond.selects RX5 yX5_sortKey yX5_sortKey ∈ zTbl := zmem (List.mem_append_left _ (List.mem_of_getElem? (i := 5) (by decide +kernel))) rfl
theorem mV_yX7_numberAt : Cond.selects RX7 yX7_numberAt yX7_numberAt ∈ zTbl := zmem (List.mem_append_left _ (List.mem_of_getElem? (i := 6) (by decide +kernel))) rfl
theorem mV_yX7_rowParts : Cond.selects RX7 yX7_rowParts yX7_rowParts ∈ zTbl := zmem (List.mem_append_left _ (List.mem_of_getElem? (i := 7) (by decide +kernel))) rfl
theorem mV_yX7_findFamily : Cond.selects RX7 yX7_findFamily yX7_findFamily ∈ zTbl := zmem (List.mem_append_left _ (List.mem_of_getElem? (i := 8) (by decide +kernel))) rfl
theorem mV_yX7_findEnumeration : Cond.selects RX7 yX7_findEnumeration yX7_findEnumeration ∈ zTbl := zmem (List.mem_append_left _ (List.mem_of_getElem? (i := 9) (by decide +kernel))) rfl
theorem mV_yX7_memberNamed : Cond.selects RX7 yX7_memberNamed yX7_memberNamed ∈ zTbl := zmem (List.mem_append_left _ (List.mem_of_getElem? (i := 10) (by decide +kernel))) rfl
theorem mV_yX7_findConstant : Cond.selects RX7 yX7_findConstant yX7_findConstant ∈ zTbl := zmem (List.mem_append_left _ (List.mem_of_getElem? (i := 11) (by decide +kernel))) rfl
theorem mV_yX7_homeOf : Cond.selects RX7 yX7_homeOf yX7_homeOf ∈ zTbl := zmem (List.mem_append_left _ (List.mem_of_getElem? (i := 12) (by decide +kernel))) rfl
theorem mV_yX7_drawBelow : Cond.selects RX7 yX7_drawBelow yX7_drawBelow ∈ zTbl := zmem (List.mem_append_left _ (List.mem_of_getElem? (i := 13) (by decide +kernel))) rfl
theorem mV_yX6_placeOf : Cond.selects RX6 yX6_placeOf yX6_placeOf ∈ zTbl := zmem (List.mem_append_left _ (List.mem_of_getElem? (i := 14) (by decide +kernel))) rfl
theorem mV_yX7_membersOfAll : Cond.selects RX7 yX7_membersOfAll yX7_membersOfAll ∈ zTbl := zmem (List.mem_append_left _ (List.mem_of_getElem? (i := 15) (by decide +kernel))) rfl
theorem mV_yX8_begin : Cond.selects RX8 yX8_begin yX8_begin ∈ zTbl := zmem (List.mem_append_left _ (List.mem_of_getElem? (i := 16) (by decide +kernel))) rfl
theorem mV_yX8_start : Cond.selects RX8 yX8_start yX8_start ∈ zTbl := zmem (List.mem_append_left _ (List.mem_of_getElem? (i := 17) (by decide +kernel))) rfl
theorem mV_yX8_part : Cond.selects RX8 yX8_part yX8_part ∈ zTbl := zmem (List.mem_append_left _ (List.mem_of_getElem? (i := 18) (by decide +kernel))) rfl
theorem mV_yX8_made : Cond.selects RX8 yX8_made yX8_made ∈ zTbl := zmem (List.mem_append_left _ (List.mem_of_getElem? (i := 19) (by decide +kernel))) rfl
theorem mV_yX8_leastLike : Cond.selects RX8 yX8_leastLike yX8_leastLike ∈ zTbl := zmem (List.mem_append_left _ (List.mem_of_getElem? (i := 20) (by decide +kernel))) rfl
theorem mV_yX8_isFigurePart : Cond.selects RX8 yX8_isFigurePart yX8_isFigurePart ∈ zTbl := zmem (List.mem_append_left _ (List.mem_of_getElem? (i := 21) (by decide +kernel))) rfl
theorem mV_yX8_cellOf : Cond.selects RX8 yX8_cellOf yX8_cellOf ∈ zTbl := zmem (List.mem_append_left _ (List.mem_of_getElem? (i := 22) (by decide +kernel))) rfl
theorem mV_yX8_likeOf : Cond.selects RX8 yX8_likeOf yX8_likeOf ∈ zTbl := zmem (List.mem_append_left _ (List.mem_of_getElem? (i := 23) (by decide +kernel))) rfl
theorem mV_yX8_hashOf : Cond.selects RX8 yX8_hashOf yX8_hashOf ∈ zTbl := zmem (List.mem_append_left _ (List.mem_of_getElem? (i := 24) (by decide +kernel))) rfl
theorem mV_yX8_fails : Cond.selects RX8 yX8_fails yX8_fails ∈ zTbl := zmem (List.mem_append_left _ (List.mem_of_getElem? (i := 25) (by decide +kernel))) rfl
theorem mV_yX8_isFigure : Cond.selects RX8 yX8_isFigure yX8_isFigure ∈ zTbl := zmem (List.mem_append_left _ (List.mem_of_getElem? (i := 26) (by decide +kernel))) rfl
theorem mV_yX8_laid : Cond.selects RX8 yX8_laid yX8_laid ∈ zTbl := zmem (List.mem_append_left _ (List.mem_of_getElem? (i := 27) (by decide +kernel))) rfl
theorem mV_yX8_hasPlace : Cond.selects RX8 yX8_hasPlace yX8_hasPlace ∈ zTbl := zmem (List.mem_append_left _ (List.mem_of_getElem? (i := 28) (by decide +kernel))) rfl
theorem mV_yX8_at : Cond.selects RX8 yX8_at yX8_at ∈ zTbl := zmem (List.mem_append_left _ (List.mem_of_getElem? (i := 29) (by decide +kernel))) rfl
theorem mV_yX8_weightOf : Cond.selects RX8 yX8_weightOf yX8_weightOf ∈ zTbl := zmem (List.mem_append_left _ (List.mem_of_getElem? (i := 30) (by decide +kernel))) rfl
theorem mV_yX8_heavyOf : Cond.selects RX8 yX8_heavyOf yX8_heavyOf ∈ zTbl := zmem (List.mem_append_left _ (List.mem_of_getElem? (i := 31) (by decide +kernel))) rfl
theorem mV_yX8_ordered : Cond.selects RX8 yX8_ordered yX8_ordered ∈ zTbl := zmem (List.mem_append_left _ (List.mem_of_getElem? (i := 32) (by decide +kernel))) rfl
theorem mV_yX8_compared : Cond.selects RX8 yX8_compared yX8_compared ∈ zTbl := zmem (List.mem_append_left _ (List.mem_of_getElem? (i := 33) (by decide +kernel))) rfl
theorem mV_yX8_byRows : Cond.selects RX8 yX8_byRows yX8_byRows ∈ zTbl := zmem (List.mem_append_left _ (List.mem_of_getElem? (i := 34) (by decide +kernel))) rfl
theorem mV_yX8_tagOf : Cond.selects RX8 yX8_tagOf yX8_tagOf ∈ zTbl := zmem (List.mem_append_left _ (List.mem_of_getElem? (i := 35) (by decide +kernel))) rfl
theorem mV_yX8_constantOf : Cond.selects RX8 yX8_constantOf yX8_constantOf ∈ zTbl := zmem (List.mem_append_left _ (List.mem_of_getElem? (i := 36) (by decide +kernel))) rfl
theorem mV_yX8_isConstant : Cond.selects RX8 yX8_isConstant yX8_isConstant ∈ zTbl := zmem (List.mem_append_left _ (List.mem_of_getElem? (i := 37) (by decide +kernel))) rfl
theorem mV_yX8_constantAt : Cond.selects RX8 yX8_constantAt yX8_constantAt ∈ zTbl := zmem (List.mem_append_left _ (List.mem_of_getElem? (i := 38) (by decide +kernel))) rfl
theorem mV_yX8_keyOf : Cond.selects RX8 yX8_keyOf yX8_keyOf ∈ zTbl := zmem (List.mem_append_left _ (List.mem_of_getElem? (i := 39) (by decide +kernel))) rfl
theorem mIn_RL : Cond.initialized RL ∈ zTbl := zin1 (List.mem_of_getElem? (i := 0) (by decide +kernel)) rfl
theorem mIn_RX7 : Cond.initialized RX7 ∈ zTbl := zin1 (List.mem_of_getElem? (i := 1) (by decide +kernel)) rfl
theorem mIn_RX2 : Cond.initialized RX2 ∈ zTbl := zin1 (List.mem_of_getElem? (i := 2) (by decide +kernel)) rfl
theorem mIn_RX5 : Cond.initialized RX5 ∈ zTbl := zin1 (List.mem_of_getElem? (i := 3) (by decide +kernel)) rfl
theorem mIn_RX6 : Cond.initialized RX6 ∈ zTbl := zin1 (List.mem_of_getElem? (i := 4) (by decide +kernel)) rfl
theorem mIn_RX1 : Cond.initialized RX1 ∈ zTbl := zin1 (List.mem_of_getElem? (i := 5) (by decide +kernel)) rfl
theorem mIn_RX8 : Cond.initialized RX8 ∈ zTbl := zin1 (List.mem_of_getElem? (i := 6) (by decide +kernel)) rfl
theorem mIn_RX4 : Cond.initialized RX4 ∈ zTbl := zin1 (List.mem_of_getElem? (i := 7) (by decide +kernel)) rfl
theorem mIn_RJ6 : Cond.initialized RJ6 ∈ zTbl := zin1 (List.mem_of_getElem? (i := 8) (by decide +kernel)) rfl
theorem mIn_RJ9 : Cond.initialized RJ9 ∈ zTbl := zin1 (List.mem_of_getElem? (i := 9) (by decide +kernel)) rfl
theorem mIn_RJ13 : Cond.initialized RJ13 ∈ zTbl := zin1 (List.mem_of_getElem? (i := 10) (by decide +kernel)) rfl
theorem mIn_RX3 : Cond.initialized RX3 ∈ zTbl := zin1 (List.mem_of_getElem? (i := 11) (by decide +kernel)) rfl
theorem mIn_RX0 : Cond.initialized RX0 ∈ zTbl := zin1 (List.mem_of_getElem? (i := 12) (by decide +kernel)) rfl
theorem mLL_7 : Cond.classLink RL 7 RX7 ∈ zTbl := zin1 (List.mem_of_getElem? (i := 13) (by decide +kernel)) rfl
theorem mIa_RX7 : Cond.instantiable RX7 11 ∈ zTbl := zin1 (List.mem_of_getElem? (i := 14) (by decide +kernel)) rfl
theorem mML_9 : Cond.methodLink RL 9 yX7_init ∈ zTbl := zin1 (List.mem_of_getElem? (i := 15) (by decide +kernel)) rfl
theorem mI_yX7_init : Cond.instanceMethod yX7_init ∈ zTbl := zin1 (List.mem_of_getElem? (i := 16) (by decide +kernel)) rfl
theorem mC_yX7_init : Cond.code yX7_init prog_1_method_1_code 2 (Option.none : Option Jvm.ClassFile.FieldType) ∈ zTbl := zin1 (List.mem_of_getElem? (i := 17) (by decide +kernel)) rfl
theorem mMX7_1 : Cond.methodLink RX7 1 Lib.objectInit ∈ zTbl := zin1 (List.mem_of_getElem? (i := 18) (by decide +kernel)) rfl
theorem mI_yObj : Cond.instanceMethod Lib.objectInit ∈ zTbl := zin1 (List.mem_of_getElem? (i := 19) (by decide +kernel)) rfl
theorem mC_yObj : Cond.code Lib.objectInit ⟨#[0xb1]⟩ 1 none ∈ zTbl := zin1 (List.mem_of_getElem? (i := 20) (by decide +kernel)) rfl
theorem mLX7_7 : Cond.classLink RX7 7 RX2 ∈ zTbl := zin1 (List.mem_of_getElem? (i := 21) (by decide +kernel)) rfl
theorem mIa_RX2 : Cond.instantiable RX2 4 ∈ zTbl := zin1 (List.mem_of_getElem? (i := 22) (by decide +kernel)) rfl
theorem mMNX7_9 : Cond.methodLinkNest RX7 9 yX2_init "KindRows" ∈ zTbl := zin1 (List.mem_of_getElem? (i := 23) (by decide +kernel)) rfl
theorem mI_yX2_init : Cond.instanceMethod yX2_init ∈ zTbl := zin1 (List.mem_of_getElem? (i := 24) (by decide +kernel)) rfl
theorem mC_yX2_init : Cond.code yX2_init prog_4_method_1_code 1 (Option.none : Option Jvm.ClassFile.FieldType) ∈ zTbl := zin1 (List.mem_of_getElem? (i := 25) (by decide +kernel)) rfl
theorem mMX2_3 : Cond.methodLink RX2 3 Lib.objectInit ∈ zTbl := zin1 (List.mem_of_getElem? (i := 26) (by decide +kernel)) rfl
theorem mFX2_9 : Cond.fieldLink RX2 9 (TX2 0).1 (TX2 0).2.1 (TX2 0).2.2.1 ∈ zTbl := zin1 (List.mem_of_getElem? (i := 27) (by decide +kernel)) rfl
theorem mFNX7_67 : Cond.fieldLinkNest RX7 67 (TX2 0).1 (TX2 0).2.1 (TX2 0).2.2.1 "KindRows" ∈ zTbl := zin1 (List.mem_of_getElem? (i := 28) (by decide +kernel)) rfl
theorem mFX2_15 : Cond.fieldLink RX2 15 (TX2 1).1 (TX2 1).2.1 (TX2 1).2.2.1 ∈ zTbl := zin1 (List.mem_of_getElem? (i := 29) (by decide +kernel)) rfl
theorem mFNX7_70 : Cond.fieldLinkNest RX7 70 (TX2 1).1 (TX2 1).2.1 (TX2 1).2.2.1 "KindRows" ∈ zTbl := zin1 (List.mem_of_getElem? (i := 30) (by decide +kernel)) rfl
theorem mFX2_18 : Cond.fieldLink RX2 18 (TX2 2).1 (TX2 2).2.1 (TX2 2).2.2.1 ∈ zTbl := zin1 (List.mem_of_getElem? (i := 31) (by decide +kernel)) rfl
theorem mFNX7_73 : Cond.fieldLinkNest RX7 73 (TX2 2).1 (TX2 2).2.1 (TX2 2).2.2.1 "KindRows" ∈ zTbl := zin1 (List.mem_of_getElem? (i := 32) (by decide +kernel)) rfl
theorem mFX2_21 : Cond.fieldLink RX2 21 (TX2 3).1 (TX2 3).2.1 (TX2 3).2.2.1 ∈ zTbl := zin1 (List.mem_of_getElem? (i := 33) (by decide +kernel)) rfl
theorem mA_int : Cond.arrayClass .int ∈ zTbl := zin1 (List.mem_of_getElem? (i := 43) (by decide +kernel)) rfl
theorem mLX7_16 : Cond.classLink RX7 16 RX5 ∈ zTbl := zin1 (List.mem_of_getElem? (i := 44) (by decide +kernel)) rfl
theorem mIa_RX5 : Cond.instantiable RX5 3 ∈ zTbl := zin1 (List.mem_of_getElem? (i := 45) (by decide +kernel)) rfl
theorem mMNX7_18 : Cond.methodLinkNest RX7 18 yX5_init "KindRows" ∈ zTbl := zin1 (List.mem_of_getElem? (i := 46) (by decide +kernel)) rfl
theorem mI_yX5_init : Cond.instanceMethod yX5_init ∈ zTbl := zin1 (List.mem_of_getElem? (i := 47) (by decide +kernel)) rfl
theorem mC_yX5_init : Cond.code yX5_init prog_7_method_1_code 1 (Option.none : Option Jvm.ClassFile.FieldType) ∈ zTbl := zin1 (List.mem_of_getElem? (i := 48) (by decide +kernel)) rfl
theorem mMX5_3 : Cond.methodLink RX5 3 Lib.objectInit ∈ zTbl := zin1 (List.mem_of_getElem? (i := 49) (by decide +kernel)) rfl
theorem mLX5_11 : Cond.classLink RX5 11 RX4 ∈ zTbl := zin1 (List.mem_of_getElem? (i := 50) (by decide +kernel)) rfl
theorem mAO_RX4 : Cond.arrayOver (.object RX4) ∈ zTbl := zin1 (List.mem_of_getElem? (i := 51) (by decide +kernel)) rfl
theorem mFX5_13 : Cond.fieldLink RX5 13 (TX5 0).1 (TX5 0).2.1 (TX5 0).2.2.1 ∈ zTbl := zin1 (List.mem_of_getElem? (i := 52) (by decide +kernel)) rfl
theorem mFX5_17 : Cond.fieldLink RX5 17 (TX5 1).1 (TX5 1).2.1 (TX5 1).2.2.1 ∈ zTbl := zin1 (List.mem_of_getElem? (i := 53) (by decide +kernel)) rfl
theorem mFX5_20 : Cond.fieldLink RX5 20 (TX5 2).1 (TX5 2).2.1 (TX5 2).2.2.1 ∈ zTbl := zin1 (List.mem_of_getElem? (i := 54) (by decide +kernel)) rfl
theorem mFNX7_201 : Cond.fieldLinkNest RX7 201 (TX5 2).1 (TX5 2).2.1 (TX5 2).2.2.1 "KindRows" ∈ zTbl := zin1 (List.mem_of_getElem? (i := 55) (by decide +kernel)) rfl
theorem mLX7_31 : Cond.classLink RX7 31 RX3 ∈ zTbl := zin1 (List.mem_of_getElem? (i := 63) (by decide +kernel)) rfl
theorem mAO_RX3 : Cond.arrayOver (.object RX3) ∈ zTbl := zin1 (List.mem_of_getElem? (i := 64) (by decide +kernel)) rfl
theorem mLX7_40 : Cond.classLink RX7 40 RX0 ∈ zTbl := zin1 (List.mem_of_getElem? (i := 65) (by decide +kernel)) rfl
theorem mAO_RX0 : Cond.arrayOver (.object RX0) ∈ zTbl := zin1 (List.mem_of_getElem? (i := 66) (by decide +kernel)) rfl
theorem mLX7_49 : Cond.classLink RX7 49 RX1 ∈ zTbl := zin1 (List.mem_of_getElem? (i := 67) (by decide +kernel)) rfl
theorem mAO_RX1 : Cond.arrayOver (.object RX1) ∈ zTbl := zin1 (List.mem_of_getElem? (i := 68) (by decide +kernel)) rfl
theorem mLX7_55 : Cond.classLink RX7 55 RX6 ∈ zTbl := zin1 (List.mem_of_getElem? (i := 69) (by decide +kernel)) rfl
theorem mIa_RX6 : Cond.instantiable RX6 3 ∈ zTbl := zin1 (List.mem_of_getElem? (i := 70) (by decide +kernel)) rfl
theorem mMNX7_57 : Cond.methodLinkNest RX7 57 yX6_init "KindRows" ∈ zTbl := zin1 (List.mem_of_getElem? (i := 71) (by decide +kernel)) rfl
theorem mI_yX6_init : Cond.instanceMethod yX6_init ∈ zTbl := zin1 (List.mem_of_getElem? (i := 72) (by decide +kernel)) rfl
theorem mC_yX6_init : Cond.code yX6_init prog_8_method_1_code 1 (Option.none : Option Jvm.ClassFile.FieldType) ∈ zTbl := zin1 (List.mem_of_getElem? (i := 73) (by decide +kernel)) rfl
theorem mMX6_3 : Cond.methodLink RX6 3 Lib.objectInit ∈ zTbl := zin1 (List.mem_of_getElem? (i := 74) (by decide +kernel)) rfl
theorem mFX6_11 : Cond.fieldLink RX6 11 (TX6 0).1 (TX6 0).2.1 (TX6 0).2.2.1 ∈ zTbl := zin1 (List.mem_of_getElem? (i := 75) (by decide +kernel)) rfl
theorem mFX6_15 : Cond.fieldLink RX6 15 (TX6 1).1 (TX6 1).2.1 (TX6 1).2.2.1 ∈ zTbl := zin1 (List.mem_of_getElem? (i := 76) (by decide +kernel)) rfl
theorem mFX6_18 : Cond.fieldLink RX6 18 (TX6 2).1 (TX6 2).2.1 (TX6 2).2.2.1 ∈ zTbl := zin1 (List.mem_of_getElem? (i := 77) (by decide +kernel)) rfl
theorem mFNX7_265 : Cond.fieldLinkNest RX7 265 (TX6 2).1 (TX6 2).2.1 (TX6 2).2.2.1 "KindRows" ∈ zTbl := zin1 (List.mem_of_getElem? (i := 78) (by decide +kernel)) rfl
theorem mIa_RX1 : Cond.instantiable RX1 2 ∈ zTbl := zin1 (List.mem_of_getElem? (i := 86) (by decide +kernel)) rfl
theorem mMNX7_66 : Cond.methodLinkNest RX7 66 yX1_init "KindRows" ∈ zTbl := zin1 (List.mem_of_getElem? (i := 87) (by decide +kernel)) rfl
theorem mI_yX1_init : Cond.instanceMethod yX1_init ∈ zTbl := zin1 (List.mem_of_getElem? (i := 88) (by decide +kernel)) rfl
theorem mC_yX1_init : Cond.code yX1_init prog_3_method_1_code 1 (Option.none : Option Jvm.ClassFile.FieldType) ∈ zTbl := zin1 (List.mem_of_getElem? (i := 89) (by decide +kernel)) rfl
theorem mMX1_3 : Cond.methodLink RX1 3 Lib.objectInit ∈ zTbl := zin1 (List.mem_of_getElem? (i := 90) (by decide +kernel)) rfl
theorem mFX1_9 : Cond.fieldLink RX1 9 (TX1 0).1 (TX1 0).2.1 (TX1 0).2.2.1 ∈ zTbl := zin1 (List.mem_of_getElem? (i := 91) (by decide +kernel)) rfl
theorem mFNX7_248 : Cond.fieldLinkNest RX7 248 (TX1 0).1 (TX1 0).2.1 (TX1 0).2.2.1 "KindRows" ∈ zTbl := zin1 (List.mem_of_getElem? (i := 92) (by decide +kernel)) rfl
theorem mFX1_15 : Cond.fieldLink RX1 15 (TX1 1).1 (TX1 1).2.1 (TX1 1).2.2.1 ∈ zTbl := zin1 (List.mem_of_getElem? (i := 93) (by decide +kernel)) rfl
theorem mFNX7_227 : Cond.fieldLinkNest RX7 227 (TX1 1).1 (TX1 1).2.1 (TX1 1).2.2.1 "KindRows" ∈ zTbl := zin1 (List.mem_of_getElem? (i := 94) (by decide +kernel)) rfl
theorem mFX7_10 : Cond.fieldLink RX7 10 (TX7 0).1 (TX7 0).2.1 (TX7 0).2.2.1 ∈ zTbl := zin1 (List.mem_of_getElem? (i := 100) (by decide +kernel)) rfl
theorem mFX7_19 : Cond.fieldLink RX7 19 (TX7 1).1 (TX7 1).2.1 (TX7 1).2.2.1 ∈ zTbl := zin1 (List.mem_of_getElem? (i := 101) (by decide +kernel)) rfl
theorem mFX7_23 : Cond.fieldLink RX7 23 (TX7 2).1 (TX7 2).2.1 (TX7 2).2.2.1 ∈ zTbl := zin1 (List.mem_of_getElem? (i := 102) (by decide +kernel)) rfl
theorem mFX7_27 : Cond.fieldLink RX7 27 (TX7 3).1 (TX7 3).2.1 (TX7 3).2.2.1 ∈ zTbl := zin1 (List.mem_of_getElem? (i := 103) (by decide +kernel)) rfl
theorem mFX7_33 : Cond.fieldLink RX7 33 (TX7 4).1 (TX7 4).2.1 (TX7 4).2.2.1 ∈ zTbl := zin1 (List.mem_of_getElem? (i := 104) (by decide +kernel)) rfl
theorem mFX7_37 : Cond.fieldLink RX7 37 (TX7 5).1 (TX7 5).2.1 (TX7 5).2.2.1 ∈ zTbl := zin1 (List.mem_of_getElem? (i := 105) (by decide +kernel)) rfl
theorem mFX7_42 : Cond.fieldLink RX7 42 (TX7 6).1 (TX7 6).2.1 (TX7 6).2.2.1 ∈ zTbl := zin1 (List.mem_of_getElem? (i := 106) (by decide +kernel)) rfl
theorem mFX7_46 : Cond.fieldLink RX7 46 (TX7 7).1 (TX7 7).2.1 (TX7 7).2.2.1 ∈ zTbl := zin1 (List.mem_of_getElem? (i := 107) (by decide +kernel)) rfl
theorem mFX7_51 : Cond.fieldLink RX7 51 (TX7 8).1 (TX7 8).2.1 (TX7 8).2.2.1 ∈ zTbl := zin1 (List.mem_of_getElem? (i := 108) (by decide +kernel)) rfl
theorem mFX7_58 : Cond.fieldLink RX7 58 (TX7 9).1 (TX7 9).2.1 (TX7 9).2.2.1 ∈ zTbl := zin1 (List.mem_of_getElem? (i := 109) (by decide +kernel)) rfl
theorem mFX7_62 : Cond.fieldLink RX7 62 (TX7 10).1 (TX7 10).2.1 (TX7 10).2.2.1 ∈ zTbl := zin1 (List.mem_of_getElem? (i := 110) (by decide +kernel)) rfl
theorem mML_13 : Cond.methodLink RL 13 yX7_cause ∈ zTbl := zin1 (List.mem_of_getElem? (i := 134) (by decide +kernel)) rfl
theorem mI_yX7_cause : Cond.instanceMethod yX7_cause ∈ zTbl := zin1 (List.mem_of_getElem? (i := 135) (by decide +kernel)) rfl
theorem mV_yX7_cause : Cond.selects RX7 yX7_cause yX7_cause ∈ zTbl := zin1 (List.mem_of_getElem? (i := 136) (by decide +kernel)) rfl
theorem mC_yX7_cause : Cond.code yX7_cause prog_1_method_2_code 2 (Option.some Jvm.ClassFile.FieldType.int) ∈ zTbl := zin1 (List.mem_of_getElem? (i := 137) (by decide +kernel)) rfl
theorem mML_18 : Cond.methodLink RL 18 yX7_lay ∈ zTbl := zin1 (List.mem_of_getElem? (i := 138) (by decide +kernel)) rfl
theorem mI_yX7_lay : Cond.instanceMethod yX7_lay ∈ zTbl := zin1 (List.mem_of_getElem? (i := 139) (by decide +kernel)) rfl
theorem mV_yX7_lay : Cond.selects RX7 yX7_lay yX7_lay ∈ zTbl := zin1 (List.mem_of_getElem? (i := 140) (by decide +kernel)) rfl
theorem mC_yX7_lay : Cond.code yX7_lay prog_1_method_3_code 2 (Option.some Jvm.ClassFile.FieldType.int) ∈ zTbl := zin1 (List.mem_of_getElem? (i := 141) (by decide +kernel)) rfl
theorem mML_22 : Cond.methodLink RL 22 yX7_wipe ∈ zTbl := zin1 (List.mem_of_getElem? (i := 142) (by decide +kernel)) rfl
theorem mI_yX7_wipe : Cond.instanceMethod yX7_wipe ∈ zTbl := zin1 (List.mem_of_getElem? (i := 143) (by decide +kernel)) rfl
theorem mV_yX7_wipe : Cond.selects RX7 yX7_wipe yX7_wipe ∈ zTbl := zin1 (List.mem_of_getElem? (i := 144) (by decide +kernel)) rfl
theorem mC_yX7_wipe : Cond.code yX7_wipe prog_1_method_4_code 2 (Option.some Jvm.ClassFile.FieldType.int) ∈ zTbl := zin1 (List.mem_of_getElem? (i := 145) (by decide +kernel)) rfl
theorem mML_29 : Cond.methodLink RL 29 yX7_point ∈ zTbl := zin1 (List.mem_of_getElem? (i := 146) (by decide +kernel)) rfl
theorem mI_yX7_point : Cond.instanceMethod yX7_point ∈ zTbl := zin1 (List.mem_of_getElem? (i := 147) (by decide +kernel)) rfl
theorem mV_yX7_point : Cond.selects RX7 yX7_point yX7_point ∈ zTbl := zin1 (List.mem_of_getElem? (i := 148) (by decide +kernel)) rfl
theorem mC_yX7_point : Cond.code yX7_point prog_1_method_5_code 5 (Option.some Jvm.ClassFile.FieldType.int) ∈ zTbl := zin1 (List.mem_of_getElem? (i := 149) (by decide +kernel)) rfl
theorem mMX7_76 : Cond.methodLink RX7 76 yX2_none ∈ zTbl := zin1 (List.mem_of_getElem? (i := 150) (by decide +kernel)) rfl
theorem mI_yX2_none : Cond.instanceMethod yX2_none ∈ zTbl := zin1 (List.mem_of_getElem? (i := 151) (by decide +kernel)) rfl
theorem mV_yX2_none : Cond.selects RX2 yX2_none yX2_none ∈ zTbl := zin1 (List.mem_of_getElem? (i := 152) (by decide +kernel)) rfl
theorem mC_yX2_none : Cond.code yX2_none prog_4_method_2_code 1 (Option.none : Option Jvm.ClassFile.FieldType) ∈ zTbl := zin1 (List.mem_of_getElem? (i := 153) (by decide +kernel)) rfl
theorem mMX7_79 : Cond.methodLink RX7 79 yX5_isFull ∈ zTbl := zin1 (List.mem_of_getElem? (i := 154) (by decide +kernel)) rfl
theorem mI_yX5_isFull : Cond.instanceMethod yX5_isFull ∈ zTbl := zin1 (List.mem_of_getElem? (i := 155) (by decide +kernel)) rfl
theorem mV_yX5_isFull : Cond.selects RX5 yX5_isFull yX5_isFull ∈ zTbl := zin1 (List.mem_of_getElem? (i := 156) (by decide +kernel)) rfl
theorem mC_yX5_isFull : Cond.code yX5_isFull prog_7_method_2_code 1 (Option.some Jvm.ClassFile.FieldType.boolean) ∈ zTbl := zin1 (List.mem_of_getElem? (i := 157) (by decide +kernel)) rfl
theorem mLX7_83 : Cond.classLink RX7 83 RX4 ∈ zTbl := zin1 (List.mem_of_getElem? (i := 158) (by decide +kernel)) rfl
theorem mIa_RX4 : Cond.instantiable RX4 7 ∈ zTbl := zin1 (List.mem_of_getElem? (i := 159) (by decide +kernel)) rfl
theorem mMX7_85 : Cond.methodLink RX7 85 yX7_oneNan ∈ zTbl := zin1 (List.mem_of_getElem? (i := 160) (by decide +kernel)) rfl
theorem mS_yX7_oneNan : Cond.static yX7_oneNan ∈ zTbl := zin1 (List.mem_of_getElem? (i := 161) (by decide +kernel)) rfl
theorem mC_yX7_oneNan : Cond.code yX7_oneNan prog_1_method_36_code 3 (Option.some Jvm.ClassFile.FieldType.long) ∈ zTbl := zin1 (List.mem_of_getElem? (i := 162) (by decide +kernel)) rfl
theorem mKX7_269 : Cond.constantLong RX7 269 (9223372036854775807) ∈ zTbl := zin1 (List.mem_of_getElem? (i := 163) (by decide +kernel)) rfl
theorem mKX7_271 : Cond.constantLong RX7 271 (9218868437227405312) ∈ zTbl := zin1 (List.mem_of_getElem? (i := 164) (by decide +kernel)) rfl
theorem mKX7_273 : Cond.constantLong RX7 273 (9221120237041090560) ∈ zTbl := zin1 (List.mem_of_getElem? (i := 165) (by decide +kernel)) rfl
theorem mMX7_89 : Cond.methodLink RX7 89 yX4_init ∈ zTbl := zin1 (List.mem_of_getElem? (i := 166) (by decide +kernel)) rfl
theorem mI_yX4_init : Cond.instanceMethod yX4_init ∈ zTbl := zin1 (List.mem_of_getElem? (i := 167) (by decide +kernel)) rfl
theorem mC_yX4_init : Cond.code yX4_init prog_6_method_1_code 5 (Option.none : Option Jvm.ClassFile.FieldType) ∈ zTbl := zin1 (List.mem_of_getElem? (i := 168) (by decide +kernel)) rfl
theorem mMX4_3 : Cond.methodLink RX4 3 Lib.objectInit ∈ zTbl := zin1 (List.mem_of_getElem? (i := 169) (by decide +kernel)) rfl
theorem mFX4_25 : Cond.fieldLink RX4 25 (TX4 0).1 (TX4 0).2.1 (TX4 0).2.2.1 ∈ zTbl := zin1 (List.mem_of_getElem? (i := 170) (by decide +kernel)) rfl
theorem mFNX3_19 : Cond.fieldLinkNest RX3 19 (TX4 0).1 (TX4 0).2.1 (TX4 0).2.2.1 "KindRows" ∈ zTbl := zin1 (List.mem_of_getElem? (i := 171) (by decide +kernel)) rfl
theorem mFNX5_42 : Cond.fieldLinkNest RX5 42 (TX4 0).1 (TX4 0).2.1 (TX4 0).2.2.1 "KindRows" ∈ zTbl := zin1 (List.mem_of_getElem? (i := 172) (by decide +kernel)) rfl
theorem mFNX7_134 : Cond.fieldLinkNest RX7 134 (TX4 0).1 (TX4 0).2.1 (TX4 0).2.2.1 "KindRows" ∈ zTbl := zin1 (List.mem_of_getElem? (i := 173) (by decide +kernel)) rfl
theorem mFX4_28 : Cond.fieldLink RX4 28 (TX4 1).1 (TX4 1).2.1 (TX4 1).2.2.1 ∈ zTbl := zin1 (List.mem_of_getElem? (i := 174) (by decide +kernel)) rfl
theorem mFNX5_45 : Cond.fieldLinkNest RX5 45 (TX4 1).1 (TX4 1).2.1 (TX4 1).2.2.1 "KindRows" ∈ zTbl := zin1 (List.mem_of_getElem? (i := 175) (by decide +kernel)) rfl
theorem mFNX7_150 : Cond.fieldLinkNest RX7 150 (TX4 1).1 (TX4 1).2.1 (TX4 1).2.2.1 "KindRows" ∈ zTbl := zin1 (List.mem_of_getElem? (i := 176) (by decide +kernel)) rfl
theorem mFX4_32 : Cond.fieldLink RX4 32 (TX4 2).1 (TX4 2).2.1 (TX4 2).2.2.1 ∈ zTbl := zin1 (List.mem_of_getElem? (i := 177) (by decide +kernel)) rfl
theorem mFNX5_53 : Cond.fieldLinkNest RX5 53 (TX4 2).1 (TX4 2).2.1 (TX4 2).2.2.1 "KindRows" ∈ zTbl := zin1 (List.mem_of_getElem? (i := 178) (by decide +kernel)) rfl
theorem mFNX7_163 : Cond.fieldLinkNest RX7 163 (TX4 2).1 (TX4 2).2.1 (TX4 2).2.2.1 "KindRows" ∈ zTbl := zin1 (List.mem_of_getElem? (i := 179) (by decide +kernel)) rfl
theorem mFX4_9 : Cond.fieldLink RX4 9 (TX4 3).1 (TX4 3).2.1 (TX4 3).2.2.1 ∈ zTbl := zin1 (List.mem_of_getElem? (i := 180) (by decide +kernel)) rfl
theorem mFNX7_126 : Cond.fieldLinkNest RX7 126 (TX4 3).1 (TX4 3).2.1 (TX4 3).2.2.1 "KindRows" ∈ zTbl := zin1 (List.mem_of_getElem? (i := 181) (by decide +kernel)) rfl
theorem mFX4_15 : Cond.fieldLink RX4 15 (TX4 4).1 (TX4 4).2.1 (TX4 4).2.2.1 ∈ zTbl := zin1 (List.mem_of_getElem? (i := 182) (by decide +kernel)) rfl
theorem mFNX5_28 : Cond.fieldLinkNest RX5 28 (TX4 4).1 (TX4 4).2.1 (TX4 4).2.2.1 "KindRows" ∈ zTbl := zin1 (List.mem_of_getElem? (i := 183) (by decide +kernel)) rfl
theorem mFX4_19 : Cond.fieldLink RX4 19 (TX4 5).1 (TX4 5).2.1 (TX4 5).2.2.1 ∈ zTbl := zin1 (List.mem_of_getElem? (i := 184) (by decide +kernel)) rfl
theorem mFNX5_35 : Cond.fieldLinkNest RX5 35 (TX4 5).1 (TX4 5).2.1 (TX4 5).2.2.1 "KindRows" ∈ zTbl := zin1 (List.mem_of_getElem? (i := 185) (by decide +kernel)) rfl
theorem mFNX7_170 : Cond.fieldLinkNest RX7 170 (TX4 5).1 (TX4 5).2.1 (TX4 5).2.2.1 "KindRows" ∈ zTbl := zin1 (List.mem_of_getElem? (i := 186) (by decide +kernel)) rfl
theorem mFX4_22 : Cond.fieldLink RX4 22 (TX4 6).1 (TX4 6).2.1 (TX4 6).2.2.1 ∈ zTbl := zin1 (List.mem_of_getElem? (i := 187) (by decide +kernel)) rfl
theorem mFNX5_69 : Cond.fieldLinkNest RX5 69 (TX4 6).1 (TX4 6).2.1 (TX4 6).2.2.1 "KindRows" ∈ zTbl := zin1 (List.mem_of_getElem? (i := 188) (by decide +kernel)) rfl
theorem mFNX7_173 : Cond.fieldLinkNest RX7 173 (TX4 6).1 (TX4 6).2.1 (TX4 6).2.2.1 "KindRows" ∈ zTbl := zin1 (List.mem_of_getElem? (i := 189) (by decide +kernel)) rfl
theorem mA_long : Cond.arrayClass .long ∈ zTbl := zin1 (List.mem_of_getElem? (i := 205) (by decide +kernel)) rfl
theorem mMX7_92 : Cond.methodLink RX7 92 yX5_add ∈ zTbl := zin1 (List.mem_of_getElem? (i := 206) (by decide +kernel)) rfl
theorem mI_yX5_add : Cond.instanceMethod yX5_add ∈ zTbl := zin1 (List.mem_of_getElem? (i := 207) (by decide +kernel)) rfl
theorem mV_yX5_add : Cond.selects RX5 yX5_add yX5_add ∈ zTbl := zin1 (List.mem_of_getElem? (i := 208) (by decide +kernel)) rfl
theorem mC_yX5_add : Cond.code yX5_add prog_7_method_5_code 2 (Option.some Jvm.ClassFile.FieldType.int) ∈ zTbl := zin1 (List.mem_of_getElem? (i := 209) (by decide +kernel)) rfl
theorem mMX5_31 : Cond.methodLink RX5 31 yX5_hashOf ∈ zTbl := zin1 (List.mem_of_getElem? (i := 210) (by decide +kernel)) rfl
theorem mI_yX5_hashOf : Cond.instanceMethod yX5_hashOf ∈ zTbl := zin1 (List.mem_of_getElem? (i := 212) (by decide +kernel)) rfl
theorem mC_yX5_hashOf : Cond.code yX5_hashOf prog_7_method_9_code 8 (Option.some Jvm.ClassFile.FieldType.int) ∈ zTbl := zin1 (List.mem_of_getElem? (i := 213) (by decide +kernel)) rfl
theorem mMX5_61 : Cond.methodLink RX5 61 yX5_hashOfNumbered ∈ zTbl := zin1 (List.mem_of_getElem? (i := 214) (by decide +kernel)) rfl
theorem mI_yX5_hashOfNumbered : Cond.instanceMethod yX5_hashOfNumbered ∈ zTbl := zin1 (List.mem_of_getElem? (i := 216) (by decide +kernel)) rfl
theorem mC_yX5_hashOfNumbered : Cond.code yX5_hashOfNumbered prog_7_method_10_code 4 (Option.some Jvm.ClassFile.FieldType.int) ∈ zTbl := zin1 (List.mem_of_getElem? (i := 217) (by decide +kernel)) rfl
theorem mMX5_24 : Cond.methodLink RX5 24 yX5_find ∈ zTbl := zin1 (List.mem_of_getElem? (i := 218) (by decide +kernel)) rfl
theorem mI_yX5_find : Cond.instanceMethod yX5_find ∈ zTbl := zin1 (List.mem_of_getElem? (i := 219) (by decide +kernel)) rfl
theorem mV_yX5_find : Cond.selects RX5 yX5_find yX5_find ∈ zTbl := zin1 (List.mem_of_getElem? (i := 220) (by decide +kernel)) rfl
theorem mC_yX5_find : Cond.code yX5_find prog_7_method_3_code 3 (Option.some (Jvm.ClassFile.FieldType.object "KindRows$Figure")) ∈ zTbl := zin1 (List.mem_of_getElem? (i := 221) (by decide +kernel)) rfl
theorem mMX5_38 : Cond.methodLink RX5 38 yX5_rank ∈ zTbl := zin1 (List.mem_of_getElem? (i := 222) (by decide +kernel)) rfl
theorem mI_yX5_rank : Cond.instanceMethod yX5_rank ∈ zTbl := zin1 (List.mem_of_getElem? (i := 224) (by decide +kernel)) rfl
theorem mC_yX5_rank : Cond.code yX5_rank prog_7_method_11_code 5 (Option.none : Option Jvm.ClassFile.FieldType) ∈ zTbl := zin1 (List.mem_of_getElem? (i := 225) (by decide +kernel)) rfl
theorem mMX5_65 : Cond.methodLink RX5 65 yX5_compare ∈ zTbl := zin1 (List.mem_of_getElem? (i := 226) (by decide +kernel)) rfl
theorem mI_yX5_compare : Cond.instanceMethod yX5_compare ∈ zTbl := zin1 (List.mem_of_getElem? (i := 228) (by decide +kernel)) rfl
theorem mC_yX5_compare : Cond.code yX5_compare prog_7_method_12_code 4 (Option.some Jvm.ClassFile.FieldType.int) ∈ zTbl := zin1 (List.mem_of_getElem? (i := 229) (by decide +kernel)) rfl
theorem mMX5_72 : Cond.methodLink RX5 72 yJ6_compare_7cf53 ∈ zTbl := zin1 (List.mem_of_getElem? (i := 230) (by decide +kernel)) rfl
theorem mS_yJ6_compare_7cf53 : Cond.static yJ6_compare_7cf53 ∈ zTbl := zin1 (List.mem_of_getElem? (i := 231) (by decide +kernel)) rfl
theorem mC_yJ6_compare_7cf53 : Cond.code yJ6_compare_7cf53 prog_11_method_40_code 2 (Option.some Jvm.ClassFile.FieldType.int) ∈ zTbl := zin1 (List.mem_of_getElem? (i := 232) (by decide +kernel)) rfl
theorem mMX5_77 : Cond.methodLink RX5 77 yX5_compareFrom ∈ zTbl := zin1 (List.mem_of_getElem? (i := 233) (by decide +kernel)) rfl
theorem mI_yX5_compareFrom : Cond.instanceMethod yX5_compareFrom ∈ zTbl := zin1 (List.mem_of_getElem? (i := 235) (by decide +kernel)) rfl
theorem mC_yX5_compareFrom : Cond.code yX5_compareFrom prog_7_method_14_code 7 (Option.some Jvm.ClassFile.FieldType.int) ∈ zTbl := zin1 (List.mem_of_getElem? (i := 236) (by decide +kernel)) rfl
theorem mMX5_89 : Cond.methodLink RX5 89 Lib.Math.min.name ∈ zTbl := zin1 (List.mem_of_getElem? (i := 237) (by decide +kernel)) rfl
theorem mS_yMin : Cond.static Lib.Math.min.name ∈ zTbl := zin1 (List.mem_of_getElem? (i := 238) (by decide +kernel)) rfl
theorem mC_yMin : Cond.code Lib.Math.min.name prog_13_method_69_code 2 (Option.some Jvm.ClassFile.FieldType.int) ∈ zTbl := zin1 (List.mem_of_getElem? (i := 239) (by decide +kernel)) rfl
theorem mMX5_94 : Cond.methodLink RX5 94 yX5_sortKey ∈ zTbl := zin2 (List.mem_of_getElem? (i := 0) (by decide +kernel)) rfl
theorem mI_yX5_sortKey : Cond.instanceMethod yX5_sortKey ∈ zTbl := zin2 (List.mem_of_getElem? (i := 2) (by decide +kernel)) rfl
theorem mC_yX5_sortKey : Cond.code yX5_sortKey prog_7_method_15_code 5 (Option.some Jvm.ClassFile.FieldType.long) ∈ zTbl := zin2 (List.mem_of_getElem? (i := 3) (by decide +kernel)) rfl
theorem mKX5_98 : Cond.constantLong RX5 98 (9223372036854775807) ∈ zTbl := zin2 (List.mem_of_getElem? (i := 4) (by decide +kernel)) rfl
theorem mKX5_100 : Cond.constantLong RX5 100 (-1) ∈ zTbl := zin2 (List.mem_of_getElem? (i := 5) (by decide +kernel)) rfl
theorem mMX5_84 : Cond.methodLink RX5 84 yJ13_compare_74951 ∈ zTbl := zin2 (List.mem_of_getElem? (i := 6) (by decide +kernel)) rfl
theorem mS_yJ13_compare_74951 : Cond.static yJ13_compare_74951 ∈ zTbl := zin2 (List.mem_of_getElem? (i := 7) (by decide +kernel)) rfl
theorem mC_yJ13_compare_74951 : Cond.code yJ13_compare_74951 prog_12_method_42_code 4 (Option.some Jvm.ClassFile.FieldType.int) ∈ zTbl := zin2 (List.mem_of_getElem? (i := 8) (by decide +kernel)) rfl
theorem mMX5_81 : Cond.methodLink RX5 81 yX5_compareAtK ∈ zTbl := zin2 (List.mem_of_getElem? (i := 9) (by decide +kernel)) rfl
theorem mS_yX5_compareAtK : Cond.static yX5_compareAtK ∈ zTbl := zin2 (List.mem_of_getElem? (i := 10) (by decide +kernel)) rfl
theorem mC_yX5_compareAtK : Cond.code yX5_compareAtK prog_7_method_13_code 3 (Option.some Jvm.ClassFile.FieldType.int) ∈ zTbl := zin2 (List.mem_of_getElem? (i := 11) (by decide +kernel)) rfl
theorem mML_34 : Cond.methodLink RL 34 yX7_span ∈ zTbl := zin2 (List.mem_of_getElem? (i := 12) (by decide +kernel)) rfl
theorem mI_yX7_span : Cond.instanceMethod yX7_span ∈ zTbl := zin2 (List.mem_of_getElem? (i := 13) (by decide +kernel)) rfl
theorem mV_yX7_span : Cond.selects RX7 yX7_span yX7_span ∈ zTbl := zin2 (List.mem_of_getElem? (i := 14) (by decide +kernel)) rfl
theorem mC_yX7_span : Cond.code yX7_span prog_1_method_6_code 3 (Option.some Jvm.ClassFile.FieldType.int) ∈ zTbl := zin2 (List.mem_of_getElem? (i := 15) (by decide +kernel)) rfl
theorem mMX7_96 : Cond.methodLink RX7 96 yX2_own ∈ zTbl := zin2 (List.mem_of_getElem? (i := 16) (by decide +kernel)) rfl
theorem mI_yX2_own : Cond.instanceMethod yX2_own ∈ zTbl := zin2 (List.mem_of_getElem? (i := 17) (by decide +kernel)) rfl
theorem mV_yX2_own : Cond.selects RX2 yX2_own yX2_own ∈ zTbl := zin2 (List.mem_of_getElem? (i := 18) (by decide +kernel)) rfl
theorem mC_yX2_own : Cond.code yX2_own prog_4_method_3_code 3 (Option.some Jvm.ClassFile.FieldType.int) ∈ zTbl := zin2 (List.mem_of_getElem? (i := 19) (by decide +kernel)) rfl
theorem mMX2_25 : Cond.methodLink RX2 25 yX2_inPart ∈ zTbl := zin2 (List.mem_of_getElem? (i := 20) (by decide +kernel)) rfl
theorem mI_yX2_inPart : Cond.instanceMethod yX2_inPart ∈ zTbl := zin2 (List.mem_of_getElem? (i := 21) (by decide +kernel)) rfl
theorem mV_yX2_inPart : Cond.selects RX2 yX2_inPart yX2_inPart ∈ zTbl := zin2 (List.mem_of_getElem? (i := 22) (by decide +kernel)) rfl
theorem mC_yX2_inPart : Cond.code yX2_inPart prog_4_method_5_code 3 (Option.some Jvm.ClassFile.FieldType.int) ∈ zTbl := zin2 (List.mem_of_getElem? (i := 23) (by decide +kernel)) rfl
theorem mMX7_100 : Cond.methodLink RX7 100 yX7_lengthOf ∈ zTbl := zin2 (List.mem_of_getElem? (i := 24) (by decide +kernel)) rfl
theorem mS_yX7_lengthOf : Cond.static yX7_lengthOf ∈ zTbl := zin2 (List.mem_of_getElem? (i := 25) (by decide +kernel)) rfl
theorem mC_yX7_lengthOf : Cond.code yX7_lengthOf prog_1_method_37_code 2 (Option.some Jvm.ClassFile.FieldType.long) ∈ zTbl := zin2 (List.mem_of_getElem? (i := 26) (by decide +kernel)) rfl
theorem mML_39 : Cond.methodLink RL 39 yX7_wide ∈ zTbl := zin2 (List.mem_of_getElem? (i := 27) (by decide +kernel)) rfl
theorem mI_yX7_wide : Cond.instanceMethod yX7_wide ∈ zTbl := zin2 (List.mem_of_getElem? (i := 28) (by decide +kernel)) rfl
theorem mV_yX7_wide : Cond.selects RX7 yX7_wide yX7_wide ∈ zTbl := zin2 (List.mem_of_getElem? (i := 29) (by decide +kernel)) rfl
theorem mC_yX7_wide : Cond.code yX7_wide prog_1_method_7_code 6 (Option.some Jvm.ClassFile.FieldType.int) ∈ zTbl := zin2 (List.mem_of_getElem? (i := 30) (by decide +kernel)) rfl
theorem mMX7_104 : Cond.methodLink RX7 104 yX2_inPart ∈ zTbl := zin2 (List.mem_of_getElem? (i := 31) (by decide +kernel)) rfl
theorem mMX7_107 : Cond.methodLink RX7 107 Lib.MathLoose.abs_long.x ∈ zTbl := zin2 (List.mem_of_getElem? (i := 32) (by decide +kernel)) rfl
theorem mS_yAbs : Cond.static Lib.MathLoose.abs_long.x ∈ zTbl := zin2 (List.mem_of_getElem? (i := 33) (by decide +kernel)) rfl
theorem mC_yAbs : Cond.code Lib.MathLoose.abs_long.x prog_13_method_61_code 2 (Option.some Jvm.ClassFile.FieldType.long) ∈ zTbl := zin2 (List.mem_of_getElem? (i := 34) (by decide +kernel)) rfl
theorem mML_44 : Cond.methodLink RL 44 yX7_share ∈ zTbl := zin2 (List.mem_of_getElem? (i := 35) (by decide +kernel)) rfl
theorem mI_yX7_share : Cond.instanceMethod yX7_share ∈ zTbl := zin2 (List.mem_of_getElem? (i := 36) (by decide +kernel)) rfl
theorem mV_yX7_share : Cond.selects RX7 yX7_share yX7_share ∈ zTbl := zin2 (List.mem_of_getElem? (i := 37) (by decide +kernel)) rfl
theorem mC_yX7_share : Cond.code yX7_share prog_1_method_8_code 7 (Option.some Jvm.ClassFile.FieldType.int) ∈ zTbl := zin2 (List.mem_of_getElem? (i := 38) (by decide +kernel)) rfl
theorem mML_48 : Cond.methodLink RL 48 yX7_pair ∈ zTbl := zin2 (List.mem_of_getElem? (i := 39) (by decide +kernel)) rfl
theorem mI_yX7_pair : Cond.instanceMethod yX7_pair ∈ zTbl := zin2 (List.mem_of_getElem? (i := 40) (by decide +kernel)) rfl
theorem mV_yX7_pair : Cond.selects RX7 yX7_pair yX7_pair ∈ zTbl := zin2 (List.mem_of_getElem? (i := 41) (by decide +kernel)) rfl
theorem mC_yX7_pair : Cond.code yX7_pair prog_1_method_9_code 3 (Option.some Jvm.ClassFile.FieldType.int) ∈ zTbl := zin2 (List.mem_of_getElem? (i := 42) (by decide +kernel)) rfl
theorem mMX7_112 : Cond.methodLink RX7 112 yX5_hasOrNone ∈ zTbl := zin2 (List.mem_of_getElem? (i := 43) (by decide +kernel)) rfl
theorem mI_yX5_hasOrNone : Cond.instanceMethod yX5_hasOrNone ∈ zTbl := zin2 (List.mem_of_getElem? (i := 44) (by decide +kernel)) rfl
theorem mV_yX5_hasOrNone : Cond.selects RX5 yX5_hasOrNone yX5_hasOrNone ∈ zTbl := zin2 (List.mem_of_getElem? (i := 45) (by decide +kernel)) rfl
theorem mC_yX5_hasOrNone : Cond.code yX5_hasOrNone prog_7_method_4_code 2 (Option.some Jvm.ClassFile.FieldType.boolean) ∈ zTbl := zin2 (List.mem_of_getElem? (i := 46) (by decide +kernel)) rfl
theorem mML_52 : Cond.methodLink RL 52 yX7_row ∈ zTbl := zin2 (List.mem_of_getElem? (i := 47) (by decide +kernel)) rfl
theorem mI_yX7_row : Cond.instanceMethod yX7_row ∈ zTbl := zin2 (List.mem_of_getElem? (i := 48) (by decide +kernel)) rfl
theorem mV_yX7_row : Cond.selects RX7 yX7_row yX7_row ∈ zTbl := zin2 (List.mem_of_getElem? (i := 49) (by decide +kernel)) rfl
theorem mC_yX7_row : Cond.code yX7_row prog_1_method_10_code 4 (Option.some Jvm.ClassFile.FieldType.int) ∈ zTbl := zin2 (List.mem_of_getElem? (i := 50) (by decide +kernel)) rfl
theorem mMX7_116 : Cond.methodLink RX7 116 yX7_numberAt ∈ zTbl := zin2 (List.mem_of_getElem? (i := 51) (by decide +kernel)) rfl
theorem mI_yX7_numberAt : Cond.instanceMethod yX7_numberAt ∈ zTbl := zin2 (List.mem_of_getElem? (i := 53) (by decide +kernel)) rfl
theorem mC_yX7_numberAt : Cond.code yX7_numberAt prog_1_method_38_code 2 (Option.some Jvm.ClassFile.FieldType.int) ∈ zTbl := zin2 (List.mem_of_getElem? (i := 54) (by decide +kernel)) rfl
theorem mMX7_120 : Cond.methodLink RX7 120 yX7_rowParts ∈ zTbl := zin2 (List.mem_of_getElem? (i := 55) (by decide +kernel)) rfl
theorem mI_yX7_rowParts : Cond.instanceMethod yX7_rowParts ∈ zTbl := zin2 (List.mem_of_getElem? (i := 57) (by decide +kernel)) rfl
theorem mC_yX7_rowParts : Cond.code yX7_rowParts prog_1_method_39_code 6 (Option.some (Jvm.ClassFile.FieldType.array Jvm.ClassFile.FieldType.long)) ∈ zTbl := zin2 (List.mem_of_getElem? (i := 58) (by decide +kernel)) rfl
theorem mML_56 : Cond.methodLink RL 56 yX7_shelf ∈ zTbl := zin2 (List.mem_of_getElem? (i := 59) (by decide +kernel)) rfl
theorem mI_yX7_shelf : Cond.instanceMethod yX7_shelf ∈ zTbl := zin2 (List.mem_of_getElem? (i := 60) (by decide +kernel)) rfl
theorem mV_yX7_shelf : Cond.selects RX7 yX7_shelf yX7_shelf ∈ zTbl := zin2 (List.mem_of_getElem? (i := 61) (by decide +kernel)) rfl
theorem mC_yX7_shelf : Cond.code yX7_shelf prog_1_method_11_code 5 (Option.some Jvm.ClassFile.FieldType.int) ∈ zTbl := zin2 (List.mem_of_getElem? (i := 62) (by decide +kernel)) rfl
theorem mKX7_124 : Cond.constantLong RX7 124 (-1) ∈ zTbl := zin2 (List.mem_of_getElem? (i := 63) (by decide +kernel)) rfl
theorem mML_61 : Cond.methodLink RL 61 yX7_set ∈ zTbl := zin2 (List.mem_of_getElem? (i := 64) (by decide +kernel)) rfl
theorem mI_yX7_set : Cond.instanceMethod yX7_set ∈ zTbl := zin2 (List.mem_of_getElem? (i := 65) (by decide +kernel)) rfl
theorem mV_yX7_set : Cond.selects RX7 yX7_set yX7_set ∈ zTbl := zin2 (List.mem_of_getElem? (i := 66) (by decide +kernel)) rfl
theorem mC_yX7_set : Cond.code yX7_set prog_1_method_12_code 6 (Option.some Jvm.ClassFile.FieldType.int) ∈ zTbl := zin2 (List.mem_of_getElem? (i := 67) (by decide +kernel)) rfl
theorem mMX7_130 : Cond.methodLink RX7 130 yX5_find ∈ zTbl := zin2 (List.mem_of_getElem? (i := 68) (by decide +kernel)) rfl
theorem mMX7_137 : Cond.methodLink RX7 137 yX4_isOf ∈ zTbl := zin2 (List.mem_of_getElem? (i := 69) (by decide +kernel)) rfl
theorem mI_yX4_isOf : Cond.instanceMethod yX4_isOf ∈ zTbl := zin2 (List.mem_of_getElem? (i := 70) (by decide +kernel)) rfl
theorem mV_yX4_isOf : Cond.selects RX4 yX4_isOf yX4_isOf ∈ zTbl := zin2 (List.mem_of_getElem? (i := 71) (by decide +kernel)) rfl
theorem mC_yX4_isOf : Cond.code yX4_isOf prog_6_method_2_code 2 (Option.some Jvm.ClassFile.FieldType.boolean) ∈ zTbl := zin2 (List.mem_of_getElem? (i := 72) (by decide +kernel)) rfl
theorem mMX7_140 : Cond.methodLink RX7 140 yX2_inNoPart ∈ zTbl := zin2 (List.mem_of_getElem? (i := 73) (by decide +kernel)) rfl
theorem mI_yX2_inNoPart : Cond.instanceMethod yX2_inNoPart ∈ zTbl := zin2 (List.mem_of_getElem? (i := 74) (by decide +kernel)) rfl
theorem mV_yX2_inNoPart : Cond.selects RX2 yX2_inNoPart yX2_inNoPart ∈ zTbl := zin2 (List.mem_of_getElem? (i := 75) (by decide +kernel)) rfl
theorem mC_yX2_inNoPart : Cond.code yX2_inNoPart prog_4_method_4_code 2 (Option.some Jvm.ClassFile.FieldType.int) ∈ zTbl := zin2 (List.mem_of_getElem? (i := 76) (by decide +kernel)) rfl
theorem mMX7_143 : Cond.methodLink RX7 143 yX4_hasPlace ∈ zTbl := zin2 (List.mem_of_getElem? (i := 77) (by decide +kernel)) rfl
theorem mI_yX4_hasPlace : Cond.instanceMethod yX4_hasPlace ∈ zTbl := zin2 (List.mem_of_getElem? (i := 78) (by decide +kernel)) rfl
theorem mV_yX4_hasPlace : Cond.selects RX4 yX4_hasPlace yX4_hasPlace ∈ zTbl := zin2 (List.mem_of_getElem? (i := 79) (by decide +kernel)) rfl
theorem mC_yX4_hasPlace : Cond.code yX4_hasPlace prog_6_method_4_code 2 (Option.some Jvm.ClassFile.FieldType.boolean) ∈ zTbl := zin2 (List.mem_of_getElem? (i := 80) (by decide +kernel)) rfl
theorem mMX7_146 : Cond.methodLink RX7 146 yX4_hold ∈ zTbl := zin2 (List.mem_of_getElem? (i := 81) (by decide +kernel)) rfl
theorem mI_yX4_hold : Cond.instanceMethod yX4_hold ∈ zTbl := zin2 (List.mem_of_getElem? (i := 82) (by decide +kernel)) rfl
theorem mV_yX4_hold : Cond.selects RX4 yX4_hold yX4_hold ∈ zTbl := zin2 (List.mem_of_getElem? (i := 83) (by decide +kernel)) rfl
theorem mC_yX4_hold : Cond.code yX4_hold prog_6_method_5_code 3 (Option.none : Option Jvm.ClassFile.FieldType) ∈ zTbl := zin2 (List.mem_of_getElem? (i := 84) (by decide +kernel)) rfl
theorem mKX4_36 : Cond.constantLong RX4 36 (-1) ∈ zTbl := zin2 (List.mem_of_getElem? (i := 85) (by decide +kernel)) rfl
theorem mML_65 : Cond.methodLink RL 65 yX7_at ∈ zTbl := zin2 (List.mem_of_getElem? (i := 86) (by decide +kernel)) rfl
theorem mI_yX7_at : Cond.instanceMethod yX7_at ∈ zTbl := zin2 (List.mem_of_getElem? (i := 87) (by decide +kernel)) rfl
theorem mV_yX7_at : Cond.selects RX7 yX7_at yX7_at ∈ zTbl := zin2 (List.mem_of_getElem? (i := 88) (by decide +kernel)) rfl
theorem mC_yX7_at : Cond.code yX7_at prog_1_method_13_code 4 (Option.some Jvm.ClassFile.FieldType.int) ∈ zTbl := zin2 (List.mem_of_getElem? (i := 89) (by decide +kernel)) rfl
theorem mML_69 : Cond.methodLink RL 69 yX7_kind ∈ zTbl := zin2 (List.mem_of_getElem? (i := 90) (by decide +kernel)) rfl
theorem mI_yX7_kind : Cond.instanceMethod yX7_kind ∈ zTbl := zin2 (List.mem_of_getElem? (i := 91) (by decide +kernel)) rfl
theorem mV_yX7_kind : Cond.selects RX7 yX7_kind yX7_kind ∈ zTbl := zin2 (List.mem_of_getElem? (i := 92) (by decide +kernel)) rfl
theorem mC_yX7_kind : Cond.code yX7_kind prog_1_method_14_code 3 (Option.some Jvm.ClassFile.FieldType.int) ∈ zTbl := zin2 (List.mem_of_getElem? (i := 93) (by decide +kernel)) rfl
theorem mML_73 : Cond.methodLink RL 73 yX7_parts ∈ zTbl := zin2 (List.mem_of_getElem? (i := 94) (by decide +kernel)) rfl
theorem mI_yX7_parts : Cond.instanceMethod yX7_parts ∈ zTbl := zin2 (List.mem_of_getElem? (i := 95) (by decide +kernel)) rfl
theorem mV_yX7_parts : Cond.selects RX7 yX7_parts yX7_parts ∈ zTbl := zin2 (List.mem_of_getElem? (i := 96) (by decide +kernel)) rfl
theorem mC_yX7_parts : Cond.code yX7_parts prog_1_method_15_code 3 (Option.some Jvm.ClassFile.FieldType.int) ∈ zTbl := zin2 (List.mem_of_getElem? (i := 97) (by decide +kernel)) rfl
theorem mML_77 : Cond.methodLink RL 77 yX7_part ∈ zTbl := zin2 (List.mem_of_getElem? (i := 98) (by decide +kernel)) rfl
theorem mI_yX7_part : Cond.instanceMethod yX7_part ∈ zTbl := zin2 (List.mem_of_getElem? (i := 99) (by decide +kernel)) rfl
theorem mV_yX7_part : Cond.selects RX7 yX7_part yX7_part ∈ zTbl := zin2 (List.mem_of_getElem? (i := 100) (by decide +kernel)) rfl
theorem mC_yX7_part : Cond.code yX7_part prog_1_method_16_code 4 (Option.some Jvm.ClassFile.FieldType.long) ∈ zTbl := zin2 (List.mem_of_getElem? (i := 101) (by decide +kernel)) rfl
theorem mKX7_154 : Cond.constantLong RX7 154 (-3000000000000000000) ∈ zTbl := zin2 (List.mem_of_getElem? (i := 102) (by decide +kernel)) rfl
theorem mML_82 : Cond.methodLink RL 82 yX7_weight ∈ zTbl := zin2 (List.mem_of_getElem? (i := 103) (by decide +kernel)) rfl
theorem mI_yX7_weight : Cond.instanceMethod yX7_weight ∈ zTbl := zin2 (List.mem_of_getElem? (i := 104) (by decide +kernel)) rfl
theorem mV_yX7_weight : Cond.selects RX7 yX7_weight yX7_weight ∈ zTbl := zin2 (List.mem_of_getElem? (i := 105) (by decide +kernel)) rfl
theorem mC_yX7_weight : Cond.code yX7_weight prog_1_method_17_code 4 (Option.some Jvm.ClassFile.FieldType.long) ∈ zTbl := zin2 (List.mem_of_getElem? (i := 106) (by decide +kernel)) rfl
theorem mMX7_156 : Cond.methodLink RX7 156 yX5_weighPairs ∈ zTbl := zin2 (List.mem_of_getElem? (i := 107) (by decide +kernel)) rfl
theorem mI_yX5_weighPairs : Cond.instanceMethod yX5_weighPairs ∈ zTbl := zin2 (List.mem_of_getElem? (i := 108) (by decide +kernel)) rfl
theorem mV_yX5_weighPairs : Cond.selects RX5 yX5_weighPairs yX5_weighPairs ∈ zTbl := zin2 (List.mem_of_getElem? (i := 109) (by decide +kernel)) rfl
theorem mC_yX5_weighPairs : Cond.code yX5_weighPairs prog_7_method_6_code 5 (Option.none : Option Jvm.ClassFile.FieldType) ∈ zTbl := zin2 (List.mem_of_getElem? (i := 110) (by decide +kernel)) rfl
theorem mMX5_49 : Cond.methodLink RX5 49 yX4_heavyWeight ∈ zTbl := zin2 (List.mem_of_getElem? (i := 111) (by decide +kernel)) rfl
theorem mI_yX4_heavyWeight : Cond.instanceMethod yX4_heavyWeight ∈ zTbl := zin2 (List.mem_of_getElem? (i := 112) (by decide +kernel)) rfl
theorem mV_yX4_heavyWeight : Cond.selects RX4 yX4_heavyWeight yX4_heavyWeight ∈ zTbl := zin2 (List.mem_of_getElem? (i := 113) (by decide +kernel)) rfl
theorem mC_yX4_heavyWeight : Cond.code yX4_heavyWeight prog_6_method_6_code 3 (Option.some Jvm.ClassFile.FieldType.long) ∈ zTbl := zin2 (List.mem_of_getElem? (i := 114) (by decide +kernel)) rfl
theorem mKX4_38 : Cond.constantLong RX4 38 (2) ∈ zTbl := zin2 (List.mem_of_getElem? (i := 115) (by decide +kernel)) rfl
theorem mMX4_40 : Cond.methodLink RX4 40 yX4_isOf ∈ zTbl := zin2 (List.mem_of_getElem? (i := 116) (by decide +kernel)) rfl
theorem mKX4_44 : Cond.constantLong RX4 44 (3) ∈ zTbl := zin2 (List.mem_of_getElem? (i := 117) (by decide +kernel)) rfl
theorem mMX7_159 : Cond.methodLink RX7 159 yX4_heavyWeight ∈ zTbl := zin2 (List.mem_of_getElem? (i := 118) (by decide +kernel)) rfl
theorem mML_87 : Cond.methodLink RL 87 yX7_equal ∈ zTbl := zin2 (List.mem_of_getElem? (i := 119) (by decide +kernel)) rfl
theorem mI_yX7_equal : Cond.instanceMethod yX7_equal ∈ zTbl := zin2 (List.mem_of_getElem? (i := 120) (by decide +kernel)) rfl
theorem mV_yX7_equal : Cond.selects RX7 yX7_equal yX7_equal ∈ zTbl := zin2 (List.mem_of_getElem? (i := 121) (by decide +kernel)) rfl
theorem mC_yX7_equal : Cond.code yX7_equal prog_1_method_18_code 5 (Option.some Jvm.ClassFile.FieldType.int) ∈ zTbl := zin2 (List.mem_of_getElem? (i := 122) (by decide +kernel)) rfl
theorem mMX7_166 : Cond.methodLink RX7 166 yX4_isLike ∈ zTbl := zin2 (List.mem_of_getElem? (i := 123) (by decide +kernel)) rfl
theorem mI_yX4_isLike : Cond.instanceMethod yX4_isLike ∈ zTbl := zin2 (List.mem_of_getElem? (i := 124) (by decide +kernel)) rfl
theorem mV_yX4_isLike : Cond.selects RX4 yX4_isLike yX4_isLike ∈ zTbl := zin2 (List.mem_of_getElem? (i := 125) (by decide +kernel)) rfl
theorem mC_yX4_isLike : Cond.code yX4_isLike prog_6_method_3_code 2 (Option.some Jvm.ClassFile.FieldType.boolean) ∈ zTbl := zin2 (List.mem_of_getElem? (i := 126) (by decide +kernel)) rfl
theorem mML_91 : Cond.methodLink RL 91 yX7_hash ∈ zTbl := zin2 (List.mem_of_getElem? (i := 127) (by decide +kernel)) rfl
theorem mI_yX7_hash : Cond.instanceMethod yX7_hash ∈ zTbl := zin2 (List.mem_of_getElem? (i := 128) (by decide +kernel)) rfl
theorem mV_yX7_hash : Cond.selects RX7 yX7_hash yX7_hash ∈ zTbl := zin2 (List.mem_of_getElem? (i := 129) (by decide +kernel)) rfl
theorem mC_yX7_hash : Cond.code yX7_hash prog_1_method_19_code 3 (Option.some Jvm.ClassFile.FieldType.int) ∈ zTbl := zin2 (List.mem_of_getElem? (i := 130) (by decide +kernel)) rfl
theorem mML_95 : Cond.methodLink RL 95 yX7_order ∈ zTbl := zin2 (List.mem_of_getElem? (i := 131) (by decide +kernel)) rfl
theorem mI_yX7_order : Cond.instanceMethod yX7_order ∈ zTbl := zin2 (List.mem_of_getElem? (i := 132) (by decide +kernel)) rfl
theorem mV_yX7_order : Cond.selects RX7 yX7_order yX7_order ∈ zTbl := zin2 (List.mem_of_getElem? (i := 133) (by decide +kernel)) rfl
theorem mC_yX7_order : Cond.code yX7_order prog_1_method_20_code 5 (Option.some Jvm.ClassFile.FieldType.int) ∈ zTbl := zin2 (List.mem_of_getElem? (i := 134) (by decide +kernel)) rfl
theorem mMX7_176 : Cond.methodLink RX7 176 yJ6_compare_7cf53 ∈ zTbl := zin2 (List.mem_of_getElem? (i := 135) (by decide +kernel)) rfl
theorem mML_99 : Cond.methodLink RL 99 yX7_ranked ∈ zTbl := zin2 (List.mem_of_getElem? (i := 136) (by decide +kernel)) rfl
theorem mI_yX7_ranked : Cond.instanceMethod yX7_ranked ∈ zTbl := zin2 (List.mem_of_getElem? (i := 137) (by decide +kernel)) rfl
theorem mV_yX7_ranked : Cond.selects RX7 yX7_ranked yX7_ranked ∈ zTbl := zin2 (List.mem_of_getElem? (i := 138) (by decide +kernel)) rfl
theorem mC_yX7_ranked : Cond.code yX7_ranked prog_1_method_21_code 2 (Option.some Jvm.ClassFile.FieldType.int) ∈ zTbl := zin2 (List.mem_of_getElem? (i := 139) (by decide +kernel)) rfl
theorem mMX7_181 : Cond.methodLink RX7 181 yX5_numberRanked ∈ zTbl := zin2 (List.mem_of_getElem? (i := 140) (by decide +kernel)) rfl
theorem mI_yX5_numberRanked : Cond.instanceMethod yX5_numberRanked ∈ zTbl := zin2 (List.mem_of_getElem? (i := 141) (by decide +kernel)) rfl
theorem mV_yX5_numberRanked : Cond.selects RX5 yX5_numberRanked yX5_numberRanked ∈ zTbl := zin2 (List.mem_of_getElem? (i := 142) (by decide +kernel)) rfl
theorem mC_yX5_numberRanked : Cond.code yX5_numberRanked prog_7_method_7_code 2 (Option.some Jvm.ClassFile.FieldType.int) ∈ zTbl := zin2 (List.mem_of_getElem? (i := 143) (by decide +kernel)) rfl
theorem mML_103 : Cond.methodLink RL 103 yX7_first ∈ zTbl := zin2 (List.mem_of_getElem? (i := 144) (by decide +kernel)) rfl
theorem mI_yX7_first : Cond.instanceMethod yX7_first ∈ zTbl := zin2 (List.mem_of_getElem? (i := 145) (by decide +kernel)) rfl
theorem mV_yX7_first : Cond.selects RX7 yX7_first yX7_first ∈ zTbl := zin2 (List.mem_of_getElem? (i := 146) (by decide +kernel)) rfl
theorem mC_yX7_first : Cond.code yX7_first prog_1_method_22_code 3 (Option.some Jvm.ClassFile.FieldType.int) ∈ zTbl := zin2 (List.mem_of_getElem? (i := 147) (by decide +kernel)) rfl
theorem mMX7_184 : Cond.methodLink RX7 184 yX5_firstLike ∈ zTbl := zin2 (List.mem_of_getElem? (i := 148) (by decide +kernel)) rfl
theorem mI_yX5_firstLike : Cond.instanceMethod yX5_firstLike ∈ zTbl := zin2 (List.mem_of_getElem? (i := 149) (by decide +kernel)) rfl
theorem mV_yX5_firstLike : Cond.selects RX5 yX5_firstLike yX5_firstLike ∈ zTbl := zin2 (List.mem_of_getElem? (i := 150) (by decide +kernel)) rfl
theorem mC_yX5_firstLike : Cond.code yX5_firstLike prog_7_method_8_code 3 (Option.some Jvm.ClassFile.FieldType.int) ∈ zTbl := zin2 (List.mem_of_getElem? (i := 151) (by decide +kernel)) rfl
theorem mMX5_57 : Cond.methodLink RX5 57 yX4_isLike ∈ zTbl := zin2 (List.mem_of_getElem? (i := 152) (by decide +kernel)) rfl
theorem mML_107 : Cond.methodLink RL 107 yX7_family ∈ zTbl := zin2 (List.mem_of_getElem? (i := 153) (by decide +kernel)) rfl
theorem mI_yX7_family : Cond.instanceMethod yX7_family ∈ zTbl := zin2 (List.mem_of_getElem? (i := 154) (by decide +kernel)) rfl
theorem mV_yX7_family : Cond.selects RX7 yX7_family yX7_family ∈ zTbl := zin2 (List.mem_of_getElem? (i := 155) (by decide +kernel)) rfl
theorem mC_yX7_family : Cond.code yX7_family prog_1_method_23_code 6 (Option.some Jvm.ClassFile.FieldType.int) ∈ zTbl := zin2 (List.mem_of_getElem? (i := 156) (by decide +kernel)) rfl
theorem mMX7_187 : Cond.methodLink RX7 187 yX7_areKindsOnce ∈ zTbl := zin2 (List.mem_of_getElem? (i := 157) (by decide +kernel)) rfl
theorem mS_yX7_areKindsOnce : Cond.static yX7_areKindsOnce ∈ zTbl := zin2 (List.mem_of_getElem? (i := 158) (by decide +kernel)) rfl
theorem mC_yX7_areKindsOnce : Cond.code yX7_areKindsOnce prog_1_method_40_code 6 (Option.some Jvm.ClassFile.FieldType.boolean) ∈ zTbl := zin2 (List.mem_of_getElem? (i := 159) (by decide +kernel)) rfl
theorem mIa_RX3 : Cond.instantiable RX3 2 ∈ zTbl := zin2 (List.mem_of_getElem? (i := 160) (by decide +kernel)) rfl
theorem mMX7_191 : Cond.methodLink RX7 191 yX3_init ∈ zTbl := zin2 (List.mem_of_getElem? (i := 161) (by decide +kernel)) rfl
theorem mI_yX3_init : Cond.instanceMethod yX3_init ∈ zTbl := zin2 (List.mem_of_getElem? (i := 162) (by decide +kernel)) rfl
theorem mC_yX3_init : Cond.code yX3_init prog_5_method_1_code 3 (Option.none : Option Jvm.ClassFile.FieldType) ∈ zTbl := zin2 (List.mem_of_getElem? (i := 163) (by decide +kernel)) rfl
theorem mMX3_3 : Cond.methodLink RX3 3 Lib.objectInit ∈ zTbl := zin2 (List.mem_of_getElem? (i := 164) (by decide +kernel)) rfl
theorem mFX3_11 : Cond.fieldLink RX3 11 (TX3 0).1 (TX3 0).2.1 (TX3 0).2.2.1 ∈ zTbl := zin2 (List.mem_of_getElem? (i := 165) (by decide +kernel)) rfl
theorem mFX3_15 : Cond.fieldLink RX3 15 (TX3 1).1 (TX3 1).2.1 (TX3 1).2.2.1 ∈ zTbl := zin2 (List.mem_of_getElem? (i := 166) (by decide +kernel)) rfl
theorem mML_112 : Cond.methodLink RL 112 yX7_tag ∈ zTbl := zin2 (List.mem_of_getElem? (i := 172) (by decide +kernel)) rfl
theorem mI_yX7_tag : Cond.instanceMethod yX7_tag ∈ zTbl := zin2 (List.mem_of_getElem? (i := 173) (by decide +kernel)) rfl
theorem mV_yX7_tag : Cond.selects RX7 yX7_tag yX7_tag ∈ zTbl := zin2 (List.mem_of_getElem? (i := 174) (by decide +kernel)) rfl
theorem mC_yX7_tag : Cond.code yX7_tag prog_1_method_24_code 5 (Option.some Jvm.ClassFile.FieldType.int) ∈ zTbl := zin2 (List.mem_of_getElem? (i := 175) (by decide +kernel)) rfl
theorem mMX7_194 : Cond.methodLink RX7 194 yX7_findFamily ∈ zTbl := zin2 (List.mem_of_getElem? (i := 176) (by decide +kernel)) rfl
theorem mI_yX7_findFamily : Cond.instanceMethod yX7_findFamily ∈ zTbl := zin2 (List.mem_of_getElem? (i := 178) (by decide +kernel)) rfl
theorem mC_yX7_findFamily : Cond.code yX7_findFamily prog_1_method_41_code 2 (Option.some (Jvm.ClassFile.FieldType.object "KindRows$Family")) ∈ zTbl := zin2 (List.mem_of_getElem? (i := 179) (by decide +kernel)) rfl
theorem mMX7_198 : Cond.methodLink RX7 198 yX3_tagOf ∈ zTbl := zin2 (List.mem_of_getElem? (i := 180) (by decide +kernel)) rfl
theorem mI_yX3_tagOf : Cond.instanceMethod yX3_tagOf ∈ zTbl := zin2 (List.mem_of_getElem? (i := 181) (by decide +kernel)) rfl
theorem mV_yX3_tagOf : Cond.selects RX3 yX3_tagOf yX3_tagOf ∈ zTbl := zin2 (List.mem_of_getElem? (i := 182) (by decide +kernel)) rfl
theorem mC_yX3_tagOf : Cond.code yX3_tagOf prog_5_method_2_code 4 (Option.some Jvm.ClassFile.FieldType.int) ∈ zTbl := zin2 (List.mem_of_getElem? (i := 183) (by decide +kernel)) rfl
theorem mMX3_24 : Cond.methodLink RX3 24 yX4_isOf ∈ zTbl := zin2 (List.mem_of_getElem? (i := 184) (by decide +kernel)) rfl
theorem mML_116 : Cond.methodLink RL 116 yX7_tagged ∈ zTbl := zin2 (List.mem_of_getElem? (i := 185) (by decide +kernel)) rfl
theorem mI_yX7_tagged : Cond.instanceMethod yX7_tagged ∈ zTbl := zin2 (List.mem_of_getElem? (i := 186) (by decide +kernel)) rfl
theorem mV_yX7_tagged : Cond.selects RX7 yX7_tagged yX7_tagged ∈ zTbl := zin2 (List.mem_of_getElem? (i := 187) (by decide +kernel)) rfl
theorem mC_yX7_tagged : Cond.code yX7_tagged prog_1_method_25_code 7 (Option.some Jvm.ClassFile.FieldType.int) ∈ zTbl := zin2 (List.mem_of_getElem? (i := 188) (by decide +kernel)) rfl
theorem mML_120 : Cond.methodLink RL 120 yX7_constant ∈ zTbl := zin2 (List.mem_of_getElem? (i := 189) (by decide +kernel)) rfl
theorem mI_yX7_constant : Cond.instanceMethod yX7_constant ∈ zTbl := zin2 (List.mem_of_getElem? (i := 190) (by decide +kernel)) rfl
theorem mV_yX7_constant : Cond.selects RX7 yX7_constant yX7_constant ∈ zTbl := zin2 (List.mem_of_getElem? (i := 191) (by decide +kernel)) rfl
theorem mC_yX7_constant : Cond.code yX7_constant prog_1_method_26_code 5 (Option.some Jvm.ClassFile.FieldType.int) ∈ zTbl := zin2 (List.mem_of_getElem? (i := 192) (by decide +kernel)) rfl
theorem mMX7_204 : Cond.methodLink RX7 204 yX7_findEnumeration ∈ zTbl := zin2 (List.mem_of_getElem? (i := 193) (by decide +kernel)) rfl
theorem mI_yX7_findEnumeration : Cond.instanceMethod yX7_findEnumeration ∈ zTbl := zin2 (List.mem_of_getElem? (i := 195) (by decide +kernel)) rfl
theorem mC_yX7_findEnumeration : Cond.code yX7_findEnumeration prog_1_method_43_code 2 (Option.some (Jvm.ClassFile.FieldType.object "KindRows$Enumeration")) ∈ zTbl := zin2 (List.mem_of_getElem? (i := 196) (by decide +kernel)) rfl
theorem mMX7_208 : Cond.methodLink RX7 208 yX7_memberNamed ∈ zTbl := zin2 (List.mem_of_getElem? (i := 197) (by decide +kernel)) rfl
theorem mI_yX7_memberNamed : Cond.instanceMethod yX7_memberNamed ∈ zTbl := zin2 (List.mem_of_getElem? (i := 199) (by decide +kernel)) rfl
theorem mC_yX7_memberNamed : Cond.code yX7_memberNamed prog_1_method_45_code 5 (Option.some Jvm.ClassFile.FieldType.int) ∈ zTbl := zin2 (List.mem_of_getElem? (i := 200) (by decide +kernel)) rfl
theorem mMX7_238 : Cond.methodLink RX7 238 yX7_findConstant ∈ zTbl := zin2 (List.mem_of_getElem? (i := 201) (by decide +kernel)) rfl
theorem mI_yX7_findConstant : Cond.instanceMethod yX7_findConstant ∈ zTbl := zin2 (List.mem_of_getElem? (i := 203) (by decide +kernel)) rfl
theorem mC_yX7_findConstant : Cond.code yX7_findConstant prog_1_method_42_code 2 (Option.some (Jvm.ClassFile.FieldType.object "KindRows$Constant")) ∈ zTbl := zin2 (List.mem_of_getElem? (i := 204) (by decide +kernel)) rfl
theorem mIa_RX0 : Cond.instantiable RX0 2 ∈ zTbl := zin2 (List.mem_of_getElem? (i := 205) (by decide +kernel)) rfl
theorem mMX7_212 : Cond.methodLink RX7 212 yX0_init ∈ zTbl := zin2 (List.mem_of_getElem? (i := 206) (by decide +kernel)) rfl
theorem mI_yX0_init : Cond.instanceMethod yX0_init ∈ zTbl := zin2 (List.mem_of_getElem? (i := 207) (by decide +kernel)) rfl
theorem mC_yX0_init : Cond.code yX0_init prog_2_method_1_code 3 (Option.none : Option Jvm.ClassFile.FieldType) ∈ zTbl := zin2 (List.mem_of_getElem? (i := 208) (by decide +kernel)) rfl
theorem mMX0_1 : Cond.methodLink RX0 1 Lib.objectInit ∈ zTbl := zin2 (List.mem_of_getElem? (i := 209) (by decide +kernel)) rfl
theorem mFX0_7 : Cond.fieldLink RX0 7 (TX0 0).1 (TX0 0).2.1 (TX0 0).2.2.1 ∈ zTbl := zin2 (List.mem_of_getElem? (i := 210) (by decide +kernel)) rfl
theorem mFNX7_242 : Cond.fieldLinkNest RX7 242 (TX0 0).1 (TX0 0).2.1 (TX0 0).2.2.1 "KindRows" ∈ zTbl := zin2 (List.mem_of_getElem? (i := 211) (by decide +kernel)) rfl
theorem mFX0_13 : Cond.fieldLink RX0 13 (TX0 1).1 (TX0 1).2.1 (TX0 1).2.2.1 ∈ zTbl := zin2 (List.mem_of_getElem? (i := 212) (by decide +kernel)) rfl
theorem mFNX7_245 : Cond.fieldLinkNest RX7 245 (TX0 1).1 (TX0 1).2.1 (TX0 1).2.2.1 "KindRows" ∈ zTbl := zin2 (List.mem_of_getElem? (i := 213) (by decide +kernel)) rfl
theorem mMX7_214 : Cond.methodLink RX7 214 yX1_append ∈ zTbl := zin2 (List.mem_of_getElem? (i := 219) (by decide +kernel)) rfl
theorem mI_yX1_append : Cond.instanceMethod yX1_append ∈ zTbl := zin2 (List.mem_of_getElem? (i := 220) (by decide +kernel)) rfl
theorem mV_yX1_append : Cond.selects RX1 yX1_append yX1_append ∈ zTbl := zin2 (List.mem_of_getElem? (i := 221) (by decide +kernel)) rfl
theorem mC_yX1_append : Cond.code yX1_append prog_3_method_2_code 2 (Option.none : Option Jvm.ClassFile.FieldType) ∈ zTbl := zin2 (List.mem_of_getElem? (i := 222) (by decide +kernel)) rfl
theorem mML_124 : Cond.methodLink RL 124 yX7_named ∈ zTbl := zin2 (List.mem_of_getElem? (i := 223) (by decide +kernel)) rfl
theorem mI_yX7_named : Cond.instanceMethod yX7_named ∈ zTbl := zin2 (List.mem_of_getElem? (i := 224) (by decide +kernel)) rfl
theorem mV_yX7_named : Cond.selects RX7 yX7_named yX7_named ∈ zTbl := zin2 (List.mem_of_getElem? (i := 225) (by decide +kernel)) rfl
theorem mC_yX7_named : Cond.code yX7_named prog_1_method_27_code 5 (Option.some Jvm.ClassFile.FieldType.int) ∈ zTbl := zin2 (List.mem_of_getElem? (i := 226) (by decide +kernel)) rfl
theorem mML_128 : Cond.methodLink RL 128 yX7_drop ∈ zTbl := zin2 (List.mem_of_getElem? (i := 227) (by decide +kernel)) rfl
theorem mI_yX7_drop : Cond.instanceMethod yX7_drop ∈ zTbl := zin2 (List.mem_of_getElem? (i := 228) (by decide +kernel)) rfl
theorem mV_yX7_drop : Cond.selects RX7 yX7_drop yX7_drop ∈ zTbl := zin2 (List.mem_of_getElem? (i := 229) (by decide +kernel)) rfl
theorem mC_yX7_drop : Cond.code yX7_drop prog_1_method_28_code 4 (Option.some Jvm.ClassFile.FieldType.int) ∈ zTbl := zin2 (List.mem_of_getElem? (i := 230) (by decide +kernel)) rfl
theorem mMX7_218 : Cond.methodLink RX7 218 yX7_homeOf ∈ zTbl := zin2 (List.mem_of_getElem? (i := 231) (by decide +kernel)) rfl
theorem mI_yX7_homeOf : Cond.instanceMethod yX7_homeOf ∈ zTbl := zin2 (List.mem_of_getElem? (i := 233) (by decide +kernel)) rfl
theorem mC_yX7_homeOf : Cond.code yX7_homeOf prog_1_method_44_code 3 (Option.some (Jvm.ClassFile.FieldType.object "KindRows$Enumeration")) ∈ zTbl := zin2 (List.mem_of_getElem? (i := 234) (by decide +kernel)) rfl
theorem mMX7_221 : Cond.methodLink RX7 221 yX1_placeOf ∈ zTbl := zin2 (List.mem_of_getElem? (i := 235) (by decide +kernel)) rfl
theorem mI_yX1_placeOf : Cond.instanceMethod yX1_placeOf ∈ zTbl := zin2 (List.mem_of_getElem? (i := 236) (by decide +kernel)) rfl
theorem mV_yX1_placeOf : Cond.selects RX1 yX1_placeOf yX1_placeOf ∈ zTbl := zin2 (List.mem_of_getElem? (i := 237) (by decide +kernel)) rfl
theorem mC_yX1_placeOf : Cond.code yX1_placeOf prog_3_method_4_code 3 (Option.some Jvm.ClassFile.FieldType.int) ∈ zTbl := zin2 (List.mem_of_getElem? (i := 238) (by decide +kernel)) rfl
theorem mMX7_224 : Cond.methodLink RX7 224 yX1_remove ∈ zTbl := zin2 (List.mem_of_getElem? (i := 239) (by decide +kernel)) rfl
theorem mI_yX1_remove : Cond.instanceMethod yX1_remove ∈ zTbl := zin3 (List.mem_of_getElem? (i := 0) (by decide +kernel)) rfl
theorem mV_yX1_remove : Cond.selects RX1 yX1_remove yX1_remove ∈ zTbl := zin3 (List.mem_of_getElem? (i := 1) (by decide +kernel)) rfl
theorem mC_yX1_remove : Cond.code yX1_remove prog_3_method_3_code 3 (Option.none : Option Jvm.ClassFile.FieldType) ∈ zTbl := zin3 (List.mem_of_getElem? (i := 2) (by decide +kernel)) rfl
theorem mML_132 : Cond.methodLink RL 132 yX7_reorder ∈ zTbl := zin3 (List.mem_of_getElem? (i := 3) (by decide +kernel)) rfl
theorem mI_yX7_reorder : Cond.instanceMethod yX7_reorder ∈ zTbl := zin3 (List.mem_of_getElem? (i := 4) (by decide +kernel)) rfl
theorem mV_yX7_reorder : Cond.selects RX7 yX7_reorder yX7_reorder ∈ zTbl := zin3 (List.mem_of_getElem? (i := 5) (by decide +kernel)) rfl
theorem mC_yX7_reorder : Cond.code yX7_reorder prog_1_method_29_code 4 (Option.some Jvm.ClassFile.FieldType.int) ∈ zTbl := zin3 (List.mem_of_getElem? (i := 6) (by decide +kernel)) rfl
theorem mMX7_230 : Cond.methodLink RX7 230 yX7_drawBelow ∈ zTbl := zin3 (List.mem_of_getElem? (i := 7) (by decide +kernel)) rfl
theorem mI_yX7_drawBelow : Cond.instanceMethod yX7_drawBelow ∈ zTbl := zin3 (List.mem_of_getElem? (i := 9) (by decide +kernel)) rfl
theorem mC_yX7_drawBelow : Cond.code yX7_drawBelow prog_1_method_47_code 2 (Option.some Jvm.ClassFile.FieldType.int) ∈ zTbl := zin3 (List.mem_of_getElem? (i := 10) (by decide +kernel)) rfl
theorem mKX7_275 : Cond.constantLong RX7 275 (48271) ∈ zTbl := zin3 (List.mem_of_getElem? (i := 11) (by decide +kernel)) rfl
theorem mKX7_236 : Cond.constantLong RX7 236 (2147483647) ∈ zTbl := zin3 (List.mem_of_getElem? (i := 12) (by decide +kernel)) rfl
theorem mMX7_233 : Cond.methodLink RX7 233 yX1_exchange ∈ zTbl := zin3 (List.mem_of_getElem? (i := 13) (by decide +kernel)) rfl
theorem mI_yX1_exchange : Cond.instanceMethod yX1_exchange ∈ zTbl := zin3 (List.mem_of_getElem? (i := 14) (by decide +kernel)) rfl
theorem mV_yX1_exchange : Cond.selects RX1 yX1_exchange yX1_exchange ∈ zTbl := zin3 (List.mem_of_getElem? (i := 15) (by decide +kernel)) rfl
theorem mC_yX1_exchange : Cond.code yX1_exchange prog_3_method_5_code 4 (Option.none : Option Jvm.ClassFile.FieldType) ∈ zTbl := zin3 (List.mem_of_getElem? (i := 16) (by decide +kernel)) rfl
theorem mML_136 : Cond.methodLink RL 136 yX7_seed ∈ zTbl := zin3 (List.mem_of_getElem? (i := 17) (by decide +kernel)) rfl
theorem mI_yX7_seed : Cond.instanceMethod yX7_seed ∈ zTbl := zin3 (List.mem_of_getElem? (i := 18) (by decide +kernel)) rfl
theorem mV_yX7_seed : Cond.selects RX7 yX7_seed yX7_seed ∈ zTbl := zin3 (List.mem_of_getElem? (i := 19) (by decide +kernel)) rfl
theorem mC_yX7_seed : Cond.code yX7_seed prog_1_method_30_code 3 (Option.some Jvm.ClassFile.FieldType.int) ∈ zTbl := zin3 (List.mem_of_getElem? (i := 20) (by decide +kernel)) rfl
theorem mML_140 : Cond.methodLink RL 140 yX7_told ∈ zTbl := zin3 (List.mem_of_getElem? (i := 21) (by decide +kernel)) rfl
theorem mI_yX7_told : Cond.instanceMethod yX7_told ∈ zTbl := zin3 (List.mem_of_getElem? (i := 22) (by decide +kernel)) rfl
theorem mV_yX7_told : Cond.selects RX7 yX7_told yX7_told ∈ zTbl := zin3 (List.mem_of_getElem? (i := 23) (by decide +kernel)) rfl
theorem mC_yX7_told : Cond.code yX7_told prog_1_method_31_code 5 (Option.some Jvm.ClassFile.FieldType.int) ∈ zTbl := zin3 (List.mem_of_getElem? (i := 24) (by decide +kernel)) rfl
theorem mML_144 : Cond.methodLink RL 144 yX7_placed ∈ zTbl := zin3 (List.mem_of_getElem? (i := 25) (by decide +kernel)) rfl
theorem mI_yX7_placed : Cond.instanceMethod yX7_placed ∈ zTbl := zin3 (List.mem_of_getElem? (i := 26) (by decide +kernel)) rfl
theorem mV_yX7_placed : Cond.selects RX7 yX7_placed yX7_placed ∈ zTbl := zin3 (List.mem_of_getElem? (i := 27) (by decide +kernel)) rfl
theorem mC_yX7_placed : Cond.code yX7_placed prog_1_method_32_code 4 (Option.some Jvm.ClassFile.FieldType.int) ∈ zTbl := zin3 (List.mem_of_getElem? (i := 28) (by decide +kernel)) rfl
theorem mML_148 : Cond.methodLink RL 148 yX7_put ∈ zTbl := zin3 (List.mem_of_getElem? (i := 29) (by decide +kernel)) rfl
theorem mI_yX7_put : Cond.instanceMethod yX7_put ∈ zTbl := zin3 (List.mem_of_getElem? (i := 30) (by decide +kernel)) rfl
theorem mV_yX7_put : Cond.selects RX7 yX7_put yX7_put ∈ zTbl := zin3 (List.mem_of_getElem? (i := 31) (by decide +kernel)) rfl
theorem mC_yX7_put : Cond.code yX7_put prog_1_method_33_code 4 (Option.some Jvm.ClassFile.FieldType.int) ∈ zTbl := zin3 (List.mem_of_getElem? (i := 32) (by decide +kernel)) rfl
theorem mMX7_251 : Cond.methodLink RX7 251 yX7_keyOf ∈ zTbl := zin3 (List.mem_of_getElem? (i := 33) (by decide +kernel)) rfl
theorem mS_yX7_keyOf : Cond.static yX7_keyOf ∈ zTbl := zin3 (List.mem_of_getElem? (i := 34) (by decide +kernel)) rfl
theorem mC_yX7_keyOf : Cond.code yX7_keyOf prog_1_method_48_code 1 (Option.some Jvm.ClassFile.FieldType.int) ∈ zTbl := zin3 (List.mem_of_getElem? (i := 35) (by decide +kernel)) rfl
theorem mMX7_255 : Cond.methodLink RX7 255 yX6_store ∈ zTbl := zin3 (List.mem_of_getElem? (i := 36) (by decide +kernel)) rfl
theorem mI_yX6_store : Cond.instanceMethod yX6_store ∈ zTbl := zin3 (List.mem_of_getElem? (i := 37) (by decide +kernel)) rfl
theorem mV_yX6_store : Cond.selects RX6 yX6_store yX6_store ∈ zTbl := zin3 (List.mem_of_getElem? (i := 38) (by decide +kernel)) rfl
theorem mC_yX6_store : Cond.code yX6_store prog_8_method_2_code 4 (Option.some Jvm.ClassFile.FieldType.int) ∈ zTbl := zin3 (List.mem_of_getElem? (i := 39) (by decide +kernel)) rfl
theorem mMX6_22 : Cond.methodLink RX6 22 yX6_placeOf ∈ zTbl := zin3 (List.mem_of_getElem? (i := 40) (by decide +kernel)) rfl
theorem mI_yX6_placeOf : Cond.instanceMethod yX6_placeOf ∈ zTbl := zin3 (List.mem_of_getElem? (i := 42) (by decide +kernel)) rfl
theorem mC_yX6_placeOf : Cond.code yX6_placeOf prog_8_method_4_code 3 (Option.some Jvm.ClassFile.FieldType.int) ∈ zTbl := zin3 (List.mem_of_getElem? (i := 43) (by decide +kernel)) rfl
theorem mML_152 : Cond.methodLink RL 152 yX7_get ∈ zTbl := zin3 (List.mem_of_getElem? (i := 44) (by decide +kernel)) rfl
theorem mI_yX7_get : Cond.instanceMethod yX7_get ∈ zTbl := zin3 (List.mem_of_getElem? (i := 45) (by decide +kernel)) rfl
theorem mV_yX7_get : Cond.selects RX7 yX7_get yX7_get ∈ zTbl := zin3 (List.mem_of_getElem? (i := 46) (by decide +kernel)) rfl
theorem mC_yX7_get : Cond.code yX7_get prog_1_method_34_code 3 (Option.some Jvm.ClassFile.FieldType.int) ∈ zTbl := zin3 (List.mem_of_getElem? (i := 47) (by decide +kernel)) rfl
theorem mMX7_258 : Cond.methodLink RX7 258 yX6_valueOf ∈ zTbl := zin3 (List.mem_of_getElem? (i := 48) (by decide +kernel)) rfl
theorem mI_yX6_valueOf : Cond.instanceMethod yX6_valueOf ∈ zTbl := zin3 (List.mem_of_getElem? (i := 49) (by decide +kernel)) rfl
theorem mV_yX6_valueOf : Cond.selects RX6 yX6_valueOf yX6_valueOf ∈ zTbl := zin3 (List.mem_of_getElem? (i := 50) (by decide +kernel)) rfl
theorem mC_yX6_valueOf : Cond.code yX6_valueOf prog_8_method_3_code 3 (Option.some Jvm.ClassFile.FieldType.int) ∈ zTbl := zin3 (List.mem_of_getElem? (i := 51) (by decide +kernel)) rfl
theorem mML_156 : Cond.methodLink RL 156 yX7_count ∈ zTbl := zin3 (List.mem_of_getElem? (i := 52) (by decide +kernel)) rfl
theorem mI_yX7_count : Cond.instanceMethod yX7_count ∈ zTbl := zin3 (List.mem_of_getElem? (i := 53) (by decide +kernel)) rfl
theorem mV_yX7_count : Cond.selects RX7 yX7_count yX7_count ∈ zTbl := zin3 (List.mem_of_getElem? (i := 54) (by decide +kernel)) rfl
theorem mC_yX7_count : Cond.code yX7_count prog_1_method_35_code 2 (Option.some Jvm.ClassFile.FieldType.int) ∈ zTbl := zin3 (List.mem_of_getElem? (i := 55) (by decide +kernel)) rfl
theorem mMX7_261 : Cond.methodLink RX7 261 yX7_membersOfAll ∈ zTbl := zin3 (List.mem_of_getElem? (i := 56) (by decide +kernel)) rfl
theorem mI_yX7_membersOfAll : Cond.instanceMethod yX7_membersOfAll ∈ zTbl := zin3 (List.mem_of_getElem? (i := 58) (by decide +kernel)) rfl
theorem mC_yX7_membersOfAll : Cond.code yX7_membersOfAll prog_1_method_46_code 6 (Option.some Jvm.ClassFile.FieldType.int) ∈ zTbl := zin3 (List.mem_of_getElem? (i := 59) (by decide +kernel)) rfl
theorem mMX7_266 : Cond.methodLink RX7 266 yX2_everOf ∈ zTbl := zin3 (List.mem_of_getElem? (i := 60) (by decide +kernel)) rfl
theorem mI_yX2_everOf : Cond.instanceMethod yX2_everOf ∈ zTbl := zin3 (List.mem_of_getElem? (i := 61) (by decide +kernel)) rfl
theorem mV_yX2_everOf : Cond.selects RX2 yX2_everOf yX2_everOf ∈ zTbl := zin3 (List.mem_of_getElem? (i := 62) (by decide +kernel)) rfl
theorem mC_yX2_everOf : Cond.code yX2_everOf prog_4_method_6_code 2 (Option.some Jvm.ClassFile.FieldType.int) ∈ zTbl := zin3 (List.mem_of_getElem? (i := 63) (by decide +kernel)) rfl
theorem mLL_10 : Cond.classLink RL 10 RX8 ∈ zTbl := zin3 (List.mem_of_getElem? (i := 64) (by decide +kernel)) rfl
theorem mIa_RX8 : Cond.instantiable RX8 27 ∈ zTbl := zin3 (List.mem_of_getElem? (i := 65) (by decide +kernel)) rfl
theorem mML_12 : Cond.methodLink RL 12 yX8_init ∈ zTbl := zin3 (List.mem_of_getElem? (i := 66) (by decide +kernel)) rfl
theorem mI_yX8_init : Cond.instanceMethod yX8_init ∈ zTbl := zin3 (List.mem_of_getElem? (i := 67) (by decide +kernel)) rfl
theorem mC_yX8_init : Cond.code yX8_init prog_10_method_1_code 1 (Option.none : Option Jvm.ClassFile.FieldType) ∈ zTbl := zin3 (List.mem_of_getElem? (i := 68) (by decide +kernel)) rfl
theorem mMX8_1 : Cond.methodLink RX8 1 Lib.objectInit ∈ zTbl := zin3 (List.mem_of_getElem? (i := 69) (by decide +kernel)) rfl
theorem mFX8_74 : Cond.fieldLink RX8 74 (TX8 0).1 (TX8 0).2.1 (TX8 0).2.2.1 ∈ zTbl := zin3 (List.mem_of_getElem? (i := 70) (by decide +kernel)) rfl
theorem mFX8_9 : Cond.fieldLink RX8 9 (TX8 1).1 (TX8 1).2.1 (TX8 1).2.2.1 ∈ zTbl := zin3 (List.mem_of_getElem? (i := 71) (by decide +kernel)) rfl
theorem mFX8_77 : Cond.fieldLink RX8 77 (TX8 2).1 (TX8 2).2.1 (TX8 2).2.2.1 ∈ zTbl := zin3 (List.mem_of_getElem? (i := 72) (by decide +kernel)) rfl
theorem mFX8_13 : Cond.fieldLink RX8 13 (TX8 3).1 (TX8 3).2.1 (TX8 3).2.2.1 ∈ zTbl := zin3 (List.mem_of_getElem? (i := 73) (by decide +kernel)) rfl
theorem mFX8_80 : Cond.fieldLink RX8 80 (TX8 4).1 (TX8 4).2.1 (TX8 4).2.2.1 ∈ zTbl := zin3 (List.mem_of_getElem? (i := 74) (by decide +kernel)) rfl
theorem mFX8_17 : Cond.fieldLink RX8 17 (TX8 5).1 (TX8 5).2.1 (TX8 5).2.2.1 ∈ zTbl := zin3 (List.mem_of_getElem? (i := 75) (by decide +kernel)) rfl
theorem mFX8_83 : Cond.fieldLink RX8 83 (TX8 6).1 (TX8 6).2.1 (TX8 6).2.2.1 ∈ zTbl := zin3 (List.mem_of_getElem? (i := 76) (by decide +kernel)) rfl
theorem mFX8_20 : Cond.fieldLink RX8 20 (TX8 7).1 (TX8 7).2.1 (TX8 7).2.2.1 ∈ zTbl := zin3 (List.mem_of_getElem? (i := 77) (by decide +kernel)) rfl
theorem mFX8_23 : Cond.fieldLink RX8 23 (TX8 8).1 (TX8 8).2.1 (TX8 8).2.2.1 ∈ zTbl := zin3 (List.mem_of_getElem? (i := 78) (by decide +kernel)) rfl
theorem mFX8_26 : Cond.fieldLink RX8 26 (TX8 9).1 (TX8 9).2.1 (TX8 9).2.2.1 ∈ zTbl := zin3 (List.mem_of_getElem? (i := 79) (by decide +kernel)) rfl
theorem mFX8_30 : Cond.fieldLink RX8 30 (TX8 10).1 (TX8 10).2.1 (TX8 10).2.2.1 ∈ zTbl := zin3 (List.mem_of_getElem? (i := 80) (by decide +kernel)) rfl
theorem mFX8_34 : Cond.fieldLink RX8 34 (TX8 11).1 (TX8 11).2.1 (TX8 11).2.2.1 ∈ zTbl := zin3 (List.mem_of_getElem? (i := 81) (by decide +kernel)) rfl
theorem mFX8_37 : Cond.fieldLink RX8 37 (TX8 12).1 (TX8 12).2.1 (TX8 12).2.2.1 ∈ zTbl := zin3 (List.mem_of_getElem? (i := 82) (by decide +kernel)) rfl
theorem mFX8_40 : Cond.fieldLink RX8 40 (TX8 13).1 (TX8 13).2.1 (TX8 13).2.2.1 ∈ zTbl := zin3 (List.mem_of_getElem? (i := 83) (by decide +kernel)) rfl
theorem mFX8_187 : Cond.fieldLink RX8 187 (TX8 14).1 (TX8 14).2.1 (TX8 14).2.2.1 ∈ zTbl := zin3 (List.mem_of_getElem? (i := 84) (by decide +kernel)) rfl
theorem mFX8_43 : Cond.fieldLink RX8 43 (TX8 15).1 (TX8 15).2.1 (TX8 15).2.2.1 ∈ zTbl := zin3 (List.mem_of_getElem? (i := 85) (by decide +kernel)) rfl
theorem mFX8_46 : Cond.fieldLink RX8 46 (TX8 16).1 (TX8 16).2.1 (TX8 16).2.2.1 ∈ zTbl := zin3 (List.mem_of_getElem? (i := 86) (by decide +kernel)) rfl
theorem mFX8_193 : Cond.fieldLink RX8 193 (TX8 17).1 (TX8 17).2.1 (TX8 17).2.2.1 ∈ zTbl := zin3 (List.mem_of_getElem? (i := 87) (by decide +kernel)) rfl
theorem mFX8_49 : Cond.fieldLink RX8 49 (TX8 18).1 (TX8 18).2.1 (TX8 18).2.2.1 ∈ zTbl := zin3 (List.mem_of_getElem? (i := 88) (by decide +kernel)) rfl
theorem mFX8_52 : Cond.fieldLink RX8 52 (TX8 19).1 (TX8 19).2.1 (TX8 19).2.2.1 ∈ zTbl := zin3 (List.mem_of_getElem? (i := 89) (by decide +kernel)) rfl
theorem mFX8_55 : Cond.fieldLink RX8 55 (TX8 20).1 (TX8 20).2.1 (TX8 20).2.2.1 ∈ zTbl := zin3 (List.mem_of_getElem? (i := 90) (by decide +kernel)) rfl
theorem mFX8_58 : Cond.fieldLink RX8 58 (TX8 21).1 (TX8 21).2.1 (TX8 21).2.2.1 ∈ zTbl := zin3 (List.mem_of_getElem? (i := 91) (by decide +kernel)) rfl
theorem mFX8_61 : Cond.fieldLink RX8 61 (TX8 22).1 (TX8 22).2.1 (TX8 22).2.2.1 ∈ zTbl := zin3 (List.mem_of_getElem? (i := 92) (by decide +kernel)) rfl
theorem mFX8_213 : Cond.fieldLink RX8 213 (TX8 23).1 (TX8 23).2.1 (TX8 23).2.2.1 ∈ zTbl := zin3 (List.mem_of_getElem? (i := 93) (by decide +kernel)) rfl
theorem mFX8_65 : Cond.fieldLink RX8 65 (TX8 24).1 (TX8 24).2.1 (TX8 24).2.2.1 ∈ zTbl := zin3 (List.mem_of_getElem? (i := 94) (by decide +kernel)) rfl
theorem mFX8_68 : Cond.fieldLink RX8 68 (TX8 25).1 (TX8 25).2.1 (TX8 25).2.2.1 ∈ zTbl := zin3 (List.mem_of_getElem? (i := 95) (by decide +kernel)) rfl
theorem mFX8_71 : Cond.fieldLink RX8 71 (TX8 26).1 (TX8 26).2.1 (TX8 26).2.2.1 ∈ zTbl := zin3 (List.mem_of_getElem? (i := 96) (by decide +kernel)) rfl
theorem mA_boolean : Cond.arrayClass .boolean ∈ zTbl := zin3 (List.mem_of_getElem? (i := 152) (by decide +kernel)) rfl
theorem mML_17 : Cond.methodLink RL 17 yX8_cause ∈ zTbl := zin3 (List.mem_of_getElem? (i := 153) (by decide +kernel)) rfl
theorem mI_yX8_cause : Cond.instanceMethod yX8_cause ∈ zTbl := zin3 (List.mem_of_getElem? (i := 154) (by decide +kernel)) rfl
theorem mV_yX8_cause : Cond.selects RX8 yX8_cause yX8_cause ∈ zTbl := zin3 (List.mem_of_getElem? (i := 155) (by decide +kernel)) rfl
theorem mC_yX8_cause : Cond.code yX8_cause prog_10_method_4_code 2 (Option.some Jvm.ClassFile.FieldType.int) ∈ zTbl := zin3 (List.mem_of_getElem? (i := 156) (by decide +kernel)) rfl
theorem mML_21 : Cond.methodLink RL 21 yX8_lay ∈ zTbl := zin3 (List.mem_of_getElem? (i := 157) (by decide +kernel)) rfl
theorem mI_yX8_lay : Cond.instanceMethod yX8_lay ∈ zTbl := zin3 (List.mem_of_getElem? (i := 158) (by decide +kernel)) rfl
theorem mV_yX8_lay : Cond.selects RX8 yX8_lay yX8_lay ∈ zTbl := zin3 (List.mem_of_getElem? (i := 159) (by decide +kernel)) rfl
theorem mC_yX8_lay : Cond.code yX8_lay prog_10_method_5_code 2 (Option.some Jvm.ClassFile.FieldType.int) ∈ zTbl := zin3 (List.mem_of_getElem? (i := 160) (by decide +kernel)) rfl
theorem mML_26 : Cond.methodLink RL 26 yX8_wipe ∈ zTbl := zin3 (List.mem_of_getElem? (i := 161) (by decide +kernel)) rfl
theorem mI_yX8_wipe : Cond.instanceMethod yX8_wipe ∈ zTbl := zin3 (List.mem_of_getElem? (i := 162) (by decide +kernel)) rfl
theorem mV_yX8_wipe : Cond.selects RX8 yX8_wipe yX8_wipe ∈ zTbl := zin3 (List.mem_of_getElem? (i := 163) (by decide +kernel)) rfl
theorem mC_yX8_wipe : Cond.code yX8_wipe prog_10_method_6_code 2 (Option.some Jvm.ClassFile.FieldType.int) ∈ zTbl := zin3 (List.mem_of_getElem? (i := 164) (by decide +kernel)) rfl
theorem mML_33 : Cond.methodLink RL 33 yX8_point ∈ zTbl := zin3 (List.mem_of_getElem? (i := 165) (by decide +kernel)) rfl
theorem mI_yX8_point : Cond.instanceMethod yX8_point ∈ zTbl := zin3 (List.mem_of_getElem? (i := 166) (by decide +kernel)) rfl
theorem mV_yX8_point : Cond.selects RX8 yX8_point yX8_point ∈ zTbl := zin3 (List.mem_of_getElem? (i := 167) (by decide +kernel)) rfl
theorem mC_yX8_point : Cond.code yX8_point prog_10_method_19_code 5 (Option.some Jvm.ClassFile.FieldType.int) ∈ zTbl := zin3 (List.mem_of_getElem? (i := 168) (by decide +kernel)) rfl
theorem mMX8_116 : Cond.methodLink RX8 116 yX8_begin ∈ zTbl := zin3 (List.mem_of_getElem? (i := 169) (by decide +kernel)) rfl
theorem mI_yX8_begin : Cond.instanceMethod yX8_begin ∈ zTbl := zin3 (List.mem_of_getElem? (i := 171) (by decide +kernel)) rfl
theorem mC_yX8_begin : Cond.code yX8_begin prog_10_method_2_code 1 (Option.none : Option Jvm.ClassFile.FieldType) ∈ zTbl := zin3 (List.mem_of_getElem? (i := 172) (by decide +kernel)) rfl
theorem mMX8_119 : Cond.methodLink RX8 119 yX8_start ∈ zTbl := zin3 (List.mem_of_getElem? (i := 173) (by decide +kernel)) rfl
theorem mI_yX8_start : Cond.instanceMethod yX8_start ∈ zTbl := zin3 (List.mem_of_getElem? (i := 175) (by decide +kernel)) rfl
theorem mC_yX8_start : Cond.code yX8_start prog_10_method_10_code 2 (Option.none : Option Jvm.ClassFile.FieldType) ∈ zTbl := zin3 (List.mem_of_getElem? (i := 176) (by decide +kernel)) rfl
theorem mMX8_123 : Cond.methodLink RX8 123 yX8_clean ∈ zTbl := zin3 (List.mem_of_getElem? (i := 177) (by decide +kernel)) rfl
theorem mS_yX8_clean : Cond.static yX8_clean ∈ zTbl := zin3 (List.mem_of_getElem? (i := 178) (by decide +kernel)) rfl
theorem mC_yX8_clean : Cond.code yX8_clean prog_10_method_18_code 2 (Option.some Jvm.ClassFile.FieldType.long) ∈ zTbl := zin3 (List.mem_of_getElem? (i := 179) (by decide +kernel)) rfl
theorem mKX8_110 : Cond.constantLong RX8 110 (9223372036854775807) ∈ zTbl := zin3 (List.mem_of_getElem? (i := 180) (by decide +kernel)) rfl
theorem mKX8_112 : Cond.constantLong RX8 112 (9218868437227405312) ∈ zTbl := zin3 (List.mem_of_getElem? (i := 181) (by decide +kernel)) rfl
theorem mKX8_114 : Cond.constantLong RX8 114 (9221120237041090560) ∈ zTbl := zin3 (List.mem_of_getElem? (i := 182) (by decide +kernel)) rfl
theorem mMX8_127 : Cond.methodLink RX8 127 yX8_part ∈ zTbl := zin3 (List.mem_of_getElem? (i := 183) (by decide +kernel)) rfl
theorem mI_yX8_part : Cond.instanceMethod yX8_part ∈ zTbl := zin3 (List.mem_of_getElem? (i := 185) (by decide +kernel)) rfl
theorem mC_yX8_part : Cond.code yX8_part prog_10_method_11_code 3 (Option.none : Option Jvm.ClassFile.FieldType) ∈ zTbl := zin3 (List.mem_of_getElem? (i := 186) (by decide +kernel)) rfl
theorem mMX8_131 : Cond.methodLink RX8 131 yX8_made ∈ zTbl := zin3 (List.mem_of_getElem? (i := 187) (by decide +kernel)) rfl
theorem mI_yX8_made : Cond.instanceMethod yX8_made ∈ zTbl := zin3 (List.mem_of_getElem? (i := 189) (by decide +kernel)) rfl
theorem mC_yX8_made : Cond.code yX8_made prog_10_method_17_code 1 (Option.some Jvm.ClassFile.FieldType.int) ∈ zTbl := zin3 (List.mem_of_getElem? (i := 190) (by decide +kernel)) rfl
theorem mMX8_103 : Cond.methodLink RX8 103 yX8_leastLike ∈ zTbl := zin3 (List.mem_of_getElem? (i := 191) (by decide +kernel)) rfl
theorem mI_yX8_leastLike : Cond.instanceMethod yX8_leastLike ∈ zTbl := zin3 (List.mem_of_getElem? (i := 193) (by decide +kernel)) rfl
theorem mC_yX8_leastLike : Cond.code yX8_leastLike prog_10_method_13_code 5 (Option.some Jvm.ClassFile.FieldType.int) ∈ zTbl := zin3 (List.mem_of_getElem? (i := 194) (by decide +kernel)) rfl
theorem mMX8_86 : Cond.methodLink RX8 86 yX8_isFigurePart ∈ zTbl := zin3 (List.mem_of_getElem? (i := 195) (by decide +kernel)) rfl
theorem mI_yX8_isFigurePart : Cond.instanceMethod yX8_isFigurePart ∈ zTbl := zin3 (List.mem_of_getElem? (i := 197) (by decide +kernel)) rfl
theorem mC_yX8_isFigurePart : Cond.code yX8_isFigurePart prog_10_method_12_code 2 (Option.some Jvm.ClassFile.FieldType.boolean) ∈ zTbl := zin3 (List.mem_of_getElem? (i := 198) (by decide +kernel)) rfl
theorem mMX8_90 : Cond.methodLink RX8 90 yX8_cellOf ∈ zTbl := zin3 (List.mem_of_getElem? (i := 199) (by decide +kernel)) rfl
theorem mI_yX8_cellOf : Cond.instanceMethod yX8_cellOf ∈ zTbl := zin3 (List.mem_of_getElem? (i := 201) (by decide +kernel)) rfl
theorem mC_yX8_cellOf : Cond.code yX8_cellOf prog_10_method_9_code 3 (Option.some Jvm.ClassFile.FieldType.long) ∈ zTbl := zin3 (List.mem_of_getElem? (i := 202) (by decide +kernel)) rfl
theorem mMX8_94 : Cond.methodLink RX8 94 yX8_likeOf ∈ zTbl := zin3 (List.mem_of_getElem? (i := 203) (by decide +kernel)) rfl
theorem mI_yX8_likeOf : Cond.instanceMethod yX8_likeOf ∈ zTbl := zin3 (List.mem_of_getElem? (i := 205) (by decide +kernel)) rfl
theorem mC_yX8_likeOf : Cond.code yX8_likeOf prog_10_method_14_code 3 (Option.some Jvm.ClassFile.FieldType.int) ∈ zTbl := zin3 (List.mem_of_getElem? (i := 206) (by decide +kernel)) rfl
theorem mKX8_98 : Cond.constantLong RX8 98 (-1) ∈ zTbl := zin3 (List.mem_of_getElem? (i := 207) (by decide +kernel)) rfl
theorem mMX8_107 : Cond.methodLink RX8 107 yX8_hashOf ∈ zTbl := zin3 (List.mem_of_getElem? (i := 208) (by decide +kernel)) rfl
theorem mI_yX8_hashOf : Cond.instanceMethod yX8_hashOf ∈ zTbl := zin3 (List.mem_of_getElem? (i := 210) (by decide +kernel)) rfl
theorem mC_yX8_hashOf : Cond.code yX8_hashOf prog_10_method_16_code 6 (Option.some Jvm.ClassFile.FieldType.int) ∈ zTbl := zin3 (List.mem_of_getElem? (i := 211) (by decide +kernel)) rfl
theorem mMX8_100 : Cond.methodLink RX8 100 yX8_folded ∈ zTbl := zin3 (List.mem_of_getElem? (i := 212) (by decide +kernel)) rfl
theorem mS_yX8_folded : Cond.static yX8_folded ∈ zTbl := zin3 (List.mem_of_getElem? (i := 213) (by decide +kernel)) rfl
theorem mC_yX8_folded : Cond.code yX8_folded prog_10_method_15_code 2 (Option.some Jvm.ClassFile.FieldType.int) ∈ zTbl := zin3 (List.mem_of_getElem? (i := 214) (by decide +kernel)) rfl
theorem mML_38 : Cond.methodLink RL 38 yX8_span ∈ zTbl := zin3 (List.mem_of_getElem? (i := 215) (by decide +kernel)) rfl
theorem mI_yX8_span : Cond.instanceMethod yX8_span ∈ zTbl := zin3 (List.mem_of_getElem? (i := 216) (by decide +kernel)) rfl
theorem mV_yX8_span : Cond.selects RX8 yX8_span yX8_span ∈ zTbl := zin3 (List.mem_of_getElem? (i := 217) (by decide +kernel)) rfl
theorem mC_yX8_span : Cond.code yX8_span prog_10_method_20_code 3 (Option.some Jvm.ClassFile.FieldType.int) ∈ zTbl := zin3 (List.mem_of_getElem? (i := 218) (by decide +kernel)) rfl
theorem mMX8_135 : Cond.methodLink RX8 135 yX8_fails ∈ zTbl := zin3 (List.mem_of_getElem? (i := 219) (by decide +kernel)) rfl
theorem mI_yX8_fails : Cond.instanceMethod yX8_fails ∈ zTbl := zin3 (List.mem_of_getElem? (i := 221) (by decide +kernel)) rfl
theorem mC_yX8_fails : Cond.code yX8_fails prog_10_method_3_code 4 (Option.some Jvm.ClassFile.FieldType.int) ∈ zTbl := zin3 (List.mem_of_getElem? (i := 222) (by decide +kernel)) rfl
theorem mML_43 : Cond.methodLink RL 43 yX8_wide ∈ zTbl := zin3 (List.mem_of_getElem? (i := 223) (by decide +kernel)) rfl
theorem mI_yX8_wide : Cond.instanceMethod yX8_wide ∈ zTbl := zin3 (List.mem_of_getElem? (i := 224) (by decide +kernel)) rfl
theorem mV_yX8_wide : Cond.selects RX8 yX8_wide yX8_wide ∈ zTbl := zin3 (List.mem_of_getElem? (i := 225) (by decide +kernel)) rfl
theorem mC_yX8_wide : Cond.code yX8_wide prog_10_method_21_code 4 (Option.some Jvm.ClassFile.FieldType.int) ∈ zTbl := zin3 (List.mem_of_getElem? (i := 226) (by decide +kernel)) rfl
theorem mML_47 : Cond.methodLink RL 47 yX8_share ∈ zTbl := zin3 (List.mem_of_getElem? (i := 227) (by decide +kernel)) rfl
theorem mI_yX8_share : Cond.instanceMethod yX8_share ∈ zTbl := zin3 (List.mem_of_getElem? (i := 228) (by decide +kernel)) rfl
theorem mV_yX8_share : Cond.selects RX8 yX8_share yX8_share ∈ zTbl := zin3 (List.mem_of_getElem? (i := 229) (by decide +kernel)) rfl
theorem mC_yX8_share : Cond.code yX8_share prog_10_method_22_code 5 (Option.some Jvm.ClassFile.FieldType.int) ∈ zTbl := zin3 (List.mem_of_getElem? (i := 230) (by decide +kernel)) rfl
theorem mML_51 : Cond.methodLink RL 51 yX8_pair ∈ zTbl := zin3 (List.mem_of_getElem? (i := 231) (by decide +kernel)) rfl
theorem mI_yX8_pair : Cond.instanceMethod yX8_pair ∈ zTbl := zin3 (List.mem_of_getElem? (i := 232) (by decide +kernel)) rfl
theorem mV_yX8_pair : Cond.selects RX8 yX8_pair yX8_pair ∈ zTbl := zin3 (List.mem_of_getElem? (i := 233) (by decide +kernel)) rfl
theorem mC_yX8_pair : Cond.code yX8_pair prog_10_method_23_code 3 (Option.some Jvm.ClassFile.FieldType.int) ∈ zTbl := zin3 (List.mem_of_getElem? (i := 234) (by decide +kernel)) rfl
theorem mMX8_139 : Cond.methodLink RX8 139 yX8_isFigure ∈ zTbl := zin3 (List.mem_of_getElem? (i := 235) (by decide +kernel)) rfl
theorem mI_yX8_isFigure : Cond.instanceMethod yX8_isFigure ∈ zTbl := zin3 (List.mem_of_getElem? (i := 237) (by decide +kernel)) rfl
theorem mC_yX8_isFigure : Cond.code yX8_isFigure prog_10_method_7_code 2 (Option.some Jvm.ClassFile.FieldType.boolean) ∈ zTbl := zin3 (List.mem_of_getElem? (i := 238) (by decide +kernel)) rfl
theorem mML_55 : Cond.methodLink RL 55 yX8_row ∈ zTbl := zin3 (List.mem_of_getElem? (i := 239) (by decide +kernel)) rfl
theorem mI_yX8_row : Cond.instanceMethod yX8_row ∈ zTbl := zin4 (List.mem_of_getElem? (i := 0) (by decide +kernel)) rfl
theorem mV_yX8_row : Cond.selects RX8 yX8_row yX8_row ∈ zTbl := zin4 (List.mem_of_getElem? (i := 1) (by decide +kernel)) rfl
theorem mC_yX8_row : Cond.code yX8_row prog_10_method_25_code 4 (Option.some Jvm.ClassFile.FieldType.int) ∈ zTbl := zin4 (List.mem_of_getElem? (i := 2) (by decide +kernel)) rfl
theorem mMX8_142 : Cond.methodLink RX8 142 yX8_laid ∈ zTbl := zin4 (List.mem_of_getElem? (i := 3) (by decide +kernel)) rfl
theorem mI_yX8_laid : Cond.instanceMethod yX8_laid ∈ zTbl := zin4 (List.mem_of_getElem? (i := 5) (by decide +kernel)) rfl
theorem mC_yX8_laid : Cond.code yX8_laid prog_10_method_24_code 2 (Option.some Jvm.ClassFile.FieldType.int) ∈ zTbl := zin4 (List.mem_of_getElem? (i := 6) (by decide +kernel)) rfl
theorem mML_60 : Cond.methodLink RL 60 yX8_shelf ∈ zTbl := zin4 (List.mem_of_getElem? (i := 7) (by decide +kernel)) rfl
theorem mI_yX8_shelf : Cond.instanceMethod yX8_shelf ∈ zTbl := zin4 (List.mem_of_getElem? (i := 8) (by decide +kernel)) rfl
theorem mV_yX8_shelf : Cond.selects RX8 yX8_shelf yX8_shelf ∈ zTbl := zin4 (List.mem_of_getElem? (i := 9) (by decide +kernel)) rfl
theorem mC_yX8_shelf : Cond.code yX8_shelf prog_10_method_26_code 4 (Option.some Jvm.ClassFile.FieldType.int) ∈ zTbl := zin4 (List.mem_of_getElem? (i := 10) (by decide +kernel)) rfl
theorem mML_64 : Cond.methodLink RL 64 yX8_set ∈ zTbl := zin4 (List.mem_of_getElem? (i := 11) (by decide +kernel)) rfl
theorem mI_yX8_set : Cond.instanceMethod yX8_set ∈ zTbl := zin4 (List.mem_of_getElem? (i := 12) (by decide +kernel)) rfl
theorem mV_yX8_set : Cond.selects RX8 yX8_set yX8_set ∈ zTbl := zin4 (List.mem_of_getElem? (i := 13) (by decide +kernel)) rfl
theorem mC_yX8_set : Cond.code yX8_set prog_10_method_28_code 4 (Option.some Jvm.ClassFile.FieldType.int) ∈ zTbl := zin4 (List.mem_of_getElem? (i := 14) (by decide +kernel)) rfl
theorem mMX8_145 : Cond.methodLink RX8 145 yX8_hasPlace ∈ zTbl := zin4 (List.mem_of_getElem? (i := 15) (by decide +kernel)) rfl
theorem mI_yX8_hasPlace : Cond.instanceMethod yX8_hasPlace ∈ zTbl := zin4 (List.mem_of_getElem? (i := 17) (by decide +kernel)) rfl
theorem mC_yX8_hasPlace : Cond.code yX8_hasPlace prog_10_method_27_code 3 (Option.some Jvm.ClassFile.FieldType.boolean) ∈ zTbl := zin4 (List.mem_of_getElem? (i := 18) (by decide +kernel)) rfl
theorem mML_68 : Cond.methodLink RL 68 yX8_at_ ∈ zTbl := zin4 (List.mem_of_getElem? (i := 19) (by decide +kernel)) rfl
theorem mI_yX8_at_ : Cond.instanceMethod yX8_at_ ∈ zTbl := zin4 (List.mem_of_getElem? (i := 20) (by decide +kernel)) rfl
theorem mV_yX8_at_ : Cond.selects RX8 yX8_at_ yX8_at_ ∈ zTbl := zin4 (List.mem_of_getElem? (i := 21) (by decide +kernel)) rfl
theorem mC_yX8_at_ : Cond.code yX8_at_ prog_10_method_29_code 3 (Option.some Jvm.ClassFile.FieldType.int) ∈ zTbl := zin4 (List.mem_of_getElem? (i := 22) (by decide +kernel)) rfl
theorem mML_72 : Cond.methodLink RL 72 yX8_kind ∈ zTbl := zin4 (List.mem_of_getElem? (i := 23) (by decide +kernel)) rfl
theorem mI_yX8_kind : Cond.instanceMethod yX8_kind ∈ zTbl := zin4 (List.mem_of_getElem? (i := 24) (by decide +kernel)) rfl
theorem mV_yX8_kind : Cond.selects RX8 yX8_kind yX8_kind ∈ zTbl := zin4 (List.mem_of_getElem? (i := 25) (by decide +kernel)) rfl
theorem mC_yX8_kind : Cond.code yX8_kind prog_10_method_30_code 2 (Option.some Jvm.ClassFile.FieldType.int) ∈ zTbl := zin4 (List.mem_of_getElem? (i := 26) (by decide +kernel)) rfl
theorem mML_76 : Cond.methodLink RL 76 yX8_parts ∈ zTbl := zin4 (List.mem_of_getElem? (i := 27) (by decide +kernel)) rfl
theorem mI_yX8_parts : Cond.instanceMethod yX8_parts ∈ zTbl := zin4 (List.mem_of_getElem? (i := 28) (by decide +kernel)) rfl
theorem mV_yX8_parts : Cond.selects RX8 yX8_parts yX8_parts ∈ zTbl := zin4 (List.mem_of_getElem? (i := 29) (by decide +kernel)) rfl
theorem mC_yX8_parts : Cond.code yX8_parts prog_10_method_31_code 2 (Option.some Jvm.ClassFile.FieldType.int) ∈ zTbl := zin4 (List.mem_of_getElem? (i := 30) (by decide +kernel)) rfl
theorem mML_81 : Cond.methodLink RL 81 yX8_part_ ∈ zTbl := zin4 (List.mem_of_getElem? (i := 31) (by decide +kernel)) rfl
theorem mI_yX8_part_ : Cond.instanceMethod yX8_part_ ∈ zTbl := zin4 (List.mem_of_getElem? (i := 32) (by decide +kernel)) rfl
theorem mV_yX8_part_ : Cond.selects RX8 yX8_part_ yX8_part_ ∈ zTbl := zin4 (List.mem_of_getElem? (i := 33) (by decide +kernel)) rfl
theorem mC_yX8_part_ : Cond.code yX8_part_ prog_10_method_32_code 3 (Option.some Jvm.ClassFile.FieldType.long) ∈ zTbl := zin4 (List.mem_of_getElem? (i := 34) (by decide +kernel)) rfl
theorem mKX8_149 : Cond.constantLong RX8 149 (-3000000000000000000) ∈ zTbl := zin4 (List.mem_of_getElem? (i := 35) (by decide +kernel)) rfl
theorem mMX8_151 : Cond.methodLink RX8 151 yX8_at ∈ zTbl := zin4 (List.mem_of_getElem? (i := 36) (by decide +kernel)) rfl
theorem mI_yX8_at : Cond.instanceMethod yX8_at ∈ zTbl := zin4 (List.mem_of_getElem? (i := 38) (by decide +kernel)) rfl
theorem mC_yX8_at : Cond.code yX8_at prog_10_method_8_code 5 (Option.some Jvm.ClassFile.FieldType.long) ∈ zTbl := zin4 (List.mem_of_getElem? (i := 39) (by decide +kernel)) rfl
theorem mML_86 : Cond.methodLink RL 86 yX8_weight ∈ zTbl := zin4 (List.mem_of_getElem? (i := 40) (by decide +kernel)) rfl
theorem mI_yX8_weight : Cond.instanceMethod yX8_weight ∈ zTbl := zin4 (List.mem_of_getElem? (i := 41) (by decide +kernel)) rfl
theorem mV_yX8_weight : Cond.selects RX8 yX8_weight yX8_weight ∈ zTbl := zin4 (List.mem_of_getElem? (i := 42) (by decide +kernel)) rfl
theorem mC_yX8_weight : Cond.code yX8_weight prog_10_method_35_code 4 (Option.some Jvm.ClassFile.FieldType.long) ∈ zTbl := zin4 (List.mem_of_getElem? (i := 43) (by decide +kernel)) rfl
theorem mMX8_163 : Cond.methodLink RX8 163 yX8_weightOf ∈ zTbl := zin4 (List.mem_of_getElem? (i := 44) (by decide +kernel)) rfl
theorem mI_yX8_weightOf : Cond.instanceMethod yX8_weightOf ∈ zTbl := zin4 (List.mem_of_getElem? (i := 46) (by decide +kernel)) rfl
theorem mC_yX8_weightOf : Cond.code yX8_weightOf prog_10_method_34_code 8 (Option.some Jvm.ClassFile.FieldType.long) ∈ zTbl := zin4 (List.mem_of_getElem? (i := 47) (by decide +kernel)) rfl
theorem mMX8_159 : Cond.methodLink RX8 159 yX8_heavyOf ∈ zTbl := zin4 (List.mem_of_getElem? (i := 48) (by decide +kernel)) rfl
theorem mI_yX8_heavyOf : Cond.instanceMethod yX8_heavyOf ∈ zTbl := zin4 (List.mem_of_getElem? (i := 50) (by decide +kernel)) rfl
theorem mC_yX8_heavyOf : Cond.code yX8_heavyOf prog_10_method_33_code 4 (Option.some Jvm.ClassFile.FieldType.long) ∈ zTbl := zin4 (List.mem_of_getElem? (i := 51) (by decide +kernel)) rfl
theorem mKX8_155 : Cond.constantLong RX8 155 (2) ∈ zTbl := zin4 (List.mem_of_getElem? (i := 52) (by decide +kernel)) rfl
theorem mKX8_157 : Cond.constantLong RX8 157 (3) ∈ zTbl := zin4 (List.mem_of_getElem? (i := 53) (by decide +kernel)) rfl
theorem mML_90 : Cond.methodLink RL 90 yX8_equal ∈ zTbl := zin4 (List.mem_of_getElem? (i := 54) (by decide +kernel)) rfl
theorem mI_yX8_equal : Cond.instanceMethod yX8_equal ∈ zTbl := zin4 (List.mem_of_getElem? (i := 55) (by decide +kernel)) rfl
theorem mV_yX8_equal : Cond.selects RX8 yX8_equal yX8_equal ∈ zTbl := zin4 (List.mem_of_getElem? (i := 56) (by decide +kernel)) rfl
theorem mC_yX8_equal : Cond.code yX8_equal prog_10_method_36_code 3 (Option.some Jvm.ClassFile.FieldType.int) ∈ zTbl := zin4 (List.mem_of_getElem? (i := 57) (by decide +kernel)) rfl
theorem mML_94 : Cond.methodLink RL 94 yX8_hash ∈ zTbl := zin4 (List.mem_of_getElem? (i := 58) (by decide +kernel)) rfl
theorem mI_yX8_hash : Cond.instanceMethod yX8_hash ∈ zTbl := zin4 (List.mem_of_getElem? (i := 59) (by decide +kernel)) rfl
theorem mV_yX8_hash : Cond.selects RX8 yX8_hash yX8_hash ∈ zTbl := zin4 (List.mem_of_getElem? (i := 60) (by decide +kernel)) rfl
theorem mC_yX8_hash : Cond.code yX8_hash prog_10_method_37_code 2 (Option.some Jvm.ClassFile.FieldType.int) ∈ zTbl := zin4 (List.mem_of_getElem? (i := 61) (by decide +kernel)) rfl
theorem mML_106 : Cond.methodLink RL 106 yX8_first ∈ zTbl := zin4 (List.mem_of_getElem? (i := 62) (by decide +kernel)) rfl
theorem mI_yX8_first : Cond.instanceMethod yX8_first ∈ zTbl := zin4 (List.mem_of_getElem? (i := 63) (by decide +kernel)) rfl
theorem mV_yX8_first : Cond.selects RX8 yX8_first yX8_first ∈ zTbl := zin4 (List.mem_of_getElem? (i := 64) (by decide +kernel)) rfl
theorem mC_yX8_first : Cond.code yX8_first prog_10_method_38_code 2 (Option.some Jvm.ClassFile.FieldType.int) ∈ zTbl := zin4 (List.mem_of_getElem? (i := 65) (by decide +kernel)) rfl
theorem mML_98 : Cond.methodLink RL 98 yX8_order ∈ zTbl := zin4 (List.mem_of_getElem? (i := 66) (by decide +kernel)) rfl
theorem mI_yX8_order : Cond.instanceMethod yX8_order ∈ zTbl := zin4 (List.mem_of_getElem? (i := 67) (by decide +kernel)) rfl
theorem mV_yX8_order : Cond.selects RX8 yX8_order yX8_order ∈ zTbl := zin4 (List.mem_of_getElem? (i := 68) (by decide +kernel)) rfl
theorem mC_yX8_order : Cond.code yX8_order prog_10_method_44_code 3 (Option.some Jvm.ClassFile.FieldType.int) ∈ zTbl := zin4 (List.mem_of_getElem? (i := 69) (by decide +kernel)) rfl
theorem mMX8_180 : Cond.methodLink RX8 180 yX8_ordered ∈ zTbl := zin4 (List.mem_of_getElem? (i := 70) (by decide +kernel)) rfl
theorem mI_yX8_ordered : Cond.instanceMethod yX8_ordered ∈ zTbl := zin4 (List.mem_of_getElem? (i := 72) (by decide +kernel)) rfl
theorem mC_yX8_ordered : Cond.code yX8_ordered prog_10_method_43_code 3 (Option.some Jvm.ClassFile.FieldType.int) ∈ zTbl := zin4 (List.mem_of_getElem? (i := 73) (by decide +kernel)) rfl
theorem mMX8_177 : Cond.methodLink RX8 177 yX8_compared ∈ zTbl := zin4 (List.mem_of_getElem? (i := 74) (by decide +kernel)) rfl
theorem mI_yX8_compared : Cond.instanceMethod yX8_compared ∈ zTbl := zin4 (List.mem_of_getElem? (i := 76) (by decide +kernel)) rfl
theorem mC_yX8_compared : Cond.code yX8_compared prog_10_method_42_code 10 (Option.some Jvm.ClassFile.FieldType.int) ∈ zTbl := zin4 (List.mem_of_getElem? (i := 77) (by decide +kernel)) rfl
theorem mMX8_166 : Cond.methodLink RX8 166 yX8_by ∈ zTbl := zin4 (List.mem_of_getElem? (i := 78) (by decide +kernel)) rfl
theorem mS_yX8_by : Cond.static yX8_by ∈ zTbl := zin4 (List.mem_of_getElem? (i := 79) (by decide +kernel)) rfl
theorem mC_yX8_by : Cond.code yX8_by prog_10_method_39_code 4 (Option.some Jvm.ClassFile.FieldType.int) ∈ zTbl := zin4 (List.mem_of_getElem? (i := 80) (by decide +kernel)) rfl
theorem mMX8_170 : Cond.methodLink RX8 170 yX8_byRows ∈ zTbl := zin4 (List.mem_of_getElem? (i := 81) (by decide +kernel)) rfl
theorem mI_yX8_byRows : Cond.instanceMethod yX8_byRows ∈ zTbl := zin4 (List.mem_of_getElem? (i := 83) (by decide +kernel)) rfl
theorem mC_yX8_byRows : Cond.code yX8_byRows prog_10_method_41_code 6 (Option.some Jvm.ClassFile.FieldType.int) ∈ zTbl := zin4 (List.mem_of_getElem? (i := 84) (by decide +kernel)) rfl
theorem mMX8_174 : Cond.methodLink RX8 174 yX8_line ∈ zTbl := zin4 (List.mem_of_getElem? (i := 85) (by decide +kernel)) rfl
theorem mS_yX8_line : Cond.static yX8_line ∈ zTbl := zin4 (List.mem_of_getElem? (i := 86) (by decide +kernel)) rfl
theorem mC_yX8_line : Cond.code yX8_line prog_10_method_40_code 2 (Option.some Jvm.ClassFile.FieldType.long) ∈ zTbl := zin4 (List.mem_of_getElem? (i := 87) (by decide +kernel)) rfl
theorem mML_102 : Cond.methodLink RL 102 yX8_ranked ∈ zTbl := zin4 (List.mem_of_getElem? (i := 88) (by decide +kernel)) rfl
theorem mI_yX8_ranked : Cond.instanceMethod yX8_ranked ∈ zTbl := zin4 (List.mem_of_getElem? (i := 89) (by decide +kernel)) rfl
theorem mV_yX8_ranked : Cond.selects RX8 yX8_ranked yX8_ranked ∈ zTbl := zin4 (List.mem_of_getElem? (i := 90) (by decide +kernel)) rfl
theorem mC_yX8_ranked : Cond.code yX8_ranked prog_10_method_45_code 6 (Option.some Jvm.ClassFile.FieldType.int) ∈ zTbl := zin4 (List.mem_of_getElem? (i := 91) (by decide +kernel)) rfl
theorem mML_111 : Cond.methodLink RL 111 yX8_family ∈ zTbl := zin4 (List.mem_of_getElem? (i := 92) (by decide +kernel)) rfl
theorem mI_yX8_family : Cond.instanceMethod yX8_family ∈ zTbl := zin4 (List.mem_of_getElem? (i := 93) (by decide +kernel)) rfl
theorem mV_yX8_family : Cond.selects RX8 yX8_family yX8_family ∈ zTbl := zin4 (List.mem_of_getElem? (i := 94) (by decide +kernel)) rfl
theorem mC_yX8_family : Cond.code yX8_family prog_10_method_47_code 9 (Option.some Jvm.ClassFile.FieldType.int) ∈ zTbl := zin4 (List.mem_of_getElem? (i := 95) (by decide +kernel)) rfl
theorem mMX8_183 : Cond.methodLink RX8 183 yX8_told4 ∈ zTbl := zin4 (List.mem_of_getElem? (i := 96) (by decide +kernel)) rfl
theorem mS_yX8_told4 : Cond.static yX8_told4 ∈ zTbl := zin4 (List.mem_of_getElem? (i := 97) (by decide +kernel)) rfl
theorem mC_yX8_told4 : Cond.code yX8_told4 prog_10_method_46_code 5 (Option.some Jvm.ClassFile.FieldType.int) ∈ zTbl := zin4 (List.mem_of_getElem? (i := 98) (by decide +kernel)) rfl
theorem mML_115 : Cond.methodLink RL 115 yX8_tag ∈ zTbl := zin4 (List.mem_of_getElem? (i := 99) (by decide +kernel)) rfl
theorem mI_yX8_tag : Cond.instanceMethod yX8_tag ∈ zTbl := zin4 (List.mem_of_getElem? (i := 100) (by decide +kernel)) rfl
theorem mV_yX8_tag : Cond.selects RX8 yX8_tag yX8_tag ∈ zTbl := zin4 (List.mem_of_getElem? (i := 101) (by decide +kernel)) rfl
theorem mC_yX8_tag : Cond.code yX8_tag prog_10_method_49_code 3 (Option.some Jvm.ClassFile.FieldType.int) ∈ zTbl := zin4 (List.mem_of_getElem? (i := 102) (by decide +kernel)) rfl
theorem mMX8_190 : Cond.methodLink RX8 190 yX8_tagOf ∈ zTbl := zin4 (List.mem_of_getElem? (i := 103) (by decide +kernel)) rfl
theorem mI_yX8_tagOf : Cond.instanceMethod yX8_tagOf ∈ zTbl := zin4 (List.mem_of_getElem? (i := 105) (by decide +kernel)) rfl
theorem mC_yX8_tagOf : Cond.code yX8_tagOf prog_10_method_48_code 7 (Option.some Jvm.ClassFile.FieldType.int) ∈ zTbl := zin4 (List.mem_of_getElem? (i := 106) (by decide +kernel)) rfl
theorem mML_119 : Cond.methodLink RL 119 yX8_tagged ∈ zTbl := zin4 (List.mem_of_getElem? (i := 107) (by decide +kernel)) rfl
theorem mI_yX8_tagged : Cond.instanceMethod yX8_tagged ∈ zTbl := zin4 (List.mem_of_getElem? (i := 108) (by decide +kernel)) rfl
theorem mV_yX8_tagged : Cond.selects RX8 yX8_tagged yX8_tagged ∈ zTbl := zin4 (List.mem_of_getElem? (i := 109) (by decide +kernel)) rfl
theorem mC_yX8_tagged : Cond.code yX8_tagged prog_10_method_50_code 5 (Option.some Jvm.ClassFile.FieldType.int) ∈ zTbl := zin4 (List.mem_of_getElem? (i := 110) (by decide +kernel)) rfl
theorem mML_123 : Cond.methodLink RL 123 yX8_constant ∈ zTbl := zin4 (List.mem_of_getElem? (i := 111) (by decide +kernel)) rfl
theorem mI_yX8_constant : Cond.instanceMethod yX8_constant ∈ zTbl := zin4 (List.mem_of_getElem? (i := 112) (by decide +kernel)) rfl
theorem mV_yX8_constant : Cond.selects RX8 yX8_constant yX8_constant ∈ zTbl := zin4 (List.mem_of_getElem? (i := 113) (by decide +kernel)) rfl
theorem mC_yX8_constant : Cond.code yX8_constant prog_10_method_55_code 3 (Option.some Jvm.ClassFile.FieldType.int) ∈ zTbl := zin4 (List.mem_of_getElem? (i := 114) (by decide +kernel)) rfl
theorem mMX8_196 : Cond.methodLink RX8 196 yX8_isEnumeration ∈ zTbl := zin4 (List.mem_of_getElem? (i := 115) (by decide +kernel)) rfl
theorem mS_yX8_isEnumeration : Cond.static yX8_isEnumeration ∈ zTbl := zin4 (List.mem_of_getElem? (i := 116) (by decide +kernel)) rfl
theorem mC_yX8_isEnumeration : Cond.code yX8_isEnumeration prog_10_method_51_code 1 (Option.some Jvm.ClassFile.FieldType.boolean) ∈ zTbl := zin4 (List.mem_of_getElem? (i := 117) (by decide +kernel)) rfl
theorem mMX8_199 : Cond.methodLink RX8 199 yX8_constantOf ∈ zTbl := zin4 (List.mem_of_getElem? (i := 118) (by decide +kernel)) rfl
theorem mI_yX8_constantOf : Cond.instanceMethod yX8_constantOf ∈ zTbl := zin4 (List.mem_of_getElem? (i := 120) (by decide +kernel)) rfl
theorem mC_yX8_constantOf : Cond.code yX8_constantOf prog_10_method_54_code 4 (Option.some Jvm.ClassFile.FieldType.int) ∈ zTbl := zin4 (List.mem_of_getElem? (i := 121) (by decide +kernel)) rfl
theorem mML_127 : Cond.methodLink RL 127 yX8_named ∈ zTbl := zin4 (List.mem_of_getElem? (i := 122) (by decide +kernel)) rfl
theorem mI_yX8_named : Cond.instanceMethod yX8_named ∈ zTbl := zin4 (List.mem_of_getElem? (i := 123) (by decide +kernel)) rfl
theorem mV_yX8_named : Cond.selects RX8 yX8_named yX8_named ∈ zTbl := zin4 (List.mem_of_getElem? (i := 124) (by decide +kernel)) rfl
theorem mC_yX8_named : Cond.code yX8_named prog_10_method_56_code 4 (Option.some Jvm.ClassFile.FieldType.int) ∈ zTbl := zin4 (List.mem_of_getElem? (i := 125) (by decide +kernel)) rfl
theorem mML_131 : Cond.methodLink RL 131 yX8_drop ∈ zTbl := zin4 (List.mem_of_getElem? (i := 126) (by decide +kernel)) rfl
theorem mI_yX8_drop : Cond.instanceMethod yX8_drop ∈ zTbl := zin4 (List.mem_of_getElem? (i := 127) (by decide +kernel)) rfl
theorem mV_yX8_drop : Cond.selects RX8 yX8_drop yX8_drop ∈ zTbl := zin4 (List.mem_of_getElem? (i := 128) (by decide +kernel)) rfl
theorem mC_yX8_drop : Cond.code yX8_drop prog_10_method_57_code 4 (Option.some Jvm.ClassFile.FieldType.int) ∈ zTbl := zin4 (List.mem_of_getElem? (i := 129) (by decide +kernel)) rfl
theorem mMX8_202 : Cond.methodLink RX8 202 yX8_isConstant ∈ zTbl := zin4 (List.mem_of_getElem? (i := 130) (by decide +kernel)) rfl
theorem mI_yX8_isConstant : Cond.instanceMethod yX8_isConstant ∈ zTbl := zin4 (List.mem_of_getElem? (i := 132) (by decide +kernel)) rfl
theorem mC_yX8_isConstant : Cond.code yX8_isConstant prog_10_method_52_code 2 (Option.some Jvm.ClassFile.FieldType.boolean) ∈ zTbl := zin4 (List.mem_of_getElem? (i := 133) (by decide +kernel)) rfl
theorem mML_135 : Cond.methodLink RL 135 yX8_reorder ∈ zTbl := zin4 (List.mem_of_getElem? (i := 134) (by decide +kernel)) rfl
theorem mI_yX8_reorder : Cond.instanceMethod yX8_reorder ∈ zTbl := zin4 (List.mem_of_getElem? (i := 135) (by decide +kernel)) rfl
theorem mV_yX8_reorder : Cond.selects RX8 yX8_reorder yX8_reorder ∈ zTbl := zin4 (List.mem_of_getElem? (i := 136) (by decide +kernel)) rfl
theorem mC_yX8_reorder : Cond.code yX8_reorder prog_10_method_58_code 6 (Option.some Jvm.ClassFile.FieldType.int) ∈ zTbl := zin4 (List.mem_of_getElem? (i := 137) (by decide +kernel)) rfl
theorem mKX8_205 : Cond.constantLong RX8 205 (48271) ∈ zTbl := zin4 (List.mem_of_getElem? (i := 138) (by decide +kernel)) rfl
theorem mKX8_207 : Cond.constantLong RX8 207 (2147483647) ∈ zTbl := zin4 (List.mem_of_getElem? (i := 139) (by decide +kernel)) rfl
theorem mMX8_209 : Cond.methodLink RX8 209 yX8_constantAt ∈ zTbl := zin4 (List.mem_of_getElem? (i := 140) (by decide +kernel)) rfl
theorem mI_yX8_constantAt : Cond.instanceMethod yX8_constantAt ∈ zTbl := zin4 (List.mem_of_getElem? (i := 142) (by decide +kernel)) rfl
theorem mC_yX8_constantAt : Cond.code yX8_constantAt prog_10_method_53_code 4 (Option.some Jvm.ClassFile.FieldType.int) ∈ zTbl := zin4 (List.mem_of_getElem? (i := 143) (by decide +kernel)) rfl
theorem mML_139 : Cond.methodLink RL 139 yX8_seed ∈ zTbl := zin4 (List.mem_of_getElem? (i := 144) (by decide +kernel)) rfl
theorem mI_yX8_seed : Cond.instanceMethod yX8_seed ∈ zTbl := zin4 (List.mem_of_getElem? (i := 145) (by decide +kernel)) rfl
theorem mV_yX8_seed : Cond.selects RX8 yX8_seed yX8_seed ∈ zTbl := zin4 (List.mem_of_getElem? (i := 146) (by decide +kernel)) rfl
theorem mC_yX8_seed : Cond.code yX8_seed prog_10_method_59_code 3 (Option.some Jvm.ClassFile.FieldType.int) ∈ zTbl := zin4 (List.mem_of_getElem? (i := 147) (by decide +kernel)) rfl
theorem mKX8_212 : Cond.constant RX8 212 (2147483647) ∈ zTbl := zin4 (List.mem_of_getElem? (i := 148) (by decide +kernel)) rfl
theorem mML_143 : Cond.methodLink RL 143 yX8_told ∈ zTbl := zin4 (List.mem_of_getElem? (i := 149) (by decide +kernel)) rfl
theorem mI_yX8_told : Cond.instanceMethod yX8_told ∈ zTbl := zin4 (List.mem_of_getElem? (i := 150) (by decide +kernel)) rfl
theorem mV_yX8_told : Cond.selects RX8 yX8_told yX8_told ∈ zTbl := zin4 (List.mem_of_getElem? (i := 151) (by decide +kernel)) rfl
theorem mC_yX8_told : Cond.code yX8_told prog_10_method_60_code 3 (Option.some Jvm.ClassFile.FieldType.int) ∈ zTbl := zin4 (List.mem_of_getElem? (i := 152) (by decide +kernel)) rfl
theorem mML_147 : Cond.methodLink RL 147 yX8_placed ∈ zTbl := zin4 (List.mem_of_getElem? (i := 153) (by decide +kernel)) rfl
theorem mI_yX8_placed : Cond.instanceMethod yX8_placed ∈ zTbl := zin4 (List.mem_of_getElem? (i := 154) (by decide +kernel)) rfl
theorem mV_yX8_placed : Cond.selects RX8 yX8_placed yX8_placed ∈ zTbl := zin4 (List.mem_of_getElem? (i := 155) (by decide +kernel)) rfl
theorem mC_yX8_placed : Cond.code yX8_placed prog_10_method_61_code 3 (Option.some Jvm.ClassFile.FieldType.int) ∈ zTbl := zin4 (List.mem_of_getElem? (i := 156) (by decide +kernel)) rfl
theorem mML_151 : Cond.methodLink RL 151 yX8_put ∈ zTbl := zin4 (List.mem_of_getElem? (i := 157) (by decide +kernel)) rfl
theorem mI_yX8_put : Cond.instanceMethod yX8_put ∈ zTbl := zin4 (List.mem_of_getElem? (i := 158) (by decide +kernel)) rfl
theorem mV_yX8_put : Cond.selects RX8 yX8_put yX8_put ∈ zTbl := zin4 (List.mem_of_getElem? (i := 159) (by decide +kernel)) rfl
theorem mC_yX8_put : Cond.code yX8_put prog_10_method_63_code 5 (Option.some Jvm.ClassFile.FieldType.int) ∈ zTbl := zin4 (List.mem_of_getElem? (i := 160) (by decide +kernel)) rfl
theorem mMX8_216 : Cond.methodLink RX8 216 yX8_keyOf ∈ zTbl := zin4 (List.mem_of_getElem? (i := 161) (by decide +kernel)) rfl
theorem mI_yX8_keyOf : Cond.instanceMethod yX8_keyOf ∈ zTbl := zin4 (List.mem_of_getElem? (i := 163) (by decide +kernel)) rfl
theorem mC_yX8_keyOf : Cond.code yX8_keyOf prog_10_method_62_code 3 (Option.some Jvm.ClassFile.FieldType.int) ∈ zTbl := zin4 (List.mem_of_getElem? (i := 164) (by decide +kernel)) rfl
theorem mML_155 : Cond.methodLink RL 155 yX8_get ∈ zTbl := zin4 (List.mem_of_getElem? (i := 165) (by decide +kernel)) rfl
theorem mI_yX8_get : Cond.instanceMethod yX8_get ∈ zTbl := zin4 (List.mem_of_getElem? (i := 166) (by decide +kernel)) rfl
theorem mV_yX8_get : Cond.selects RX8 yX8_get yX8_get ∈ zTbl := zin4 (List.mem_of_getElem? (i := 167) (by decide +kernel)) rfl
theorem mC_yX8_get : Cond.code yX8_get prog_10_method_64_code 2 (Option.some Jvm.ClassFile.FieldType.int) ∈ zTbl := zin4 (List.mem_of_getElem? (i := 168) (by decide +kernel)) rfl
theorem mML_159 : Cond.methodLink RL 159 yX8_count ∈ zTbl := zin4 (List.mem_of_getElem? (i := 169) (by decide +kernel)) rfl
theorem mI_yX8_count : Cond.instanceMethod yX8_count ∈ zTbl := zin4 (List.mem_of_getElem? (i := 170) (by decide +kernel)) rfl
theorem mV_yX8_count : Cond.selects RX8 yX8_count yX8_count ∈ zTbl := zin4 (List.mem_of_getElem? (i := 171) (by decide +kernel)) rfl
theorem mC_yX8_count : Cond.code yX8_count prog_10_method_65_code 2 (Option.some Jvm.ClassFile.FieldType.int) ∈ zTbl := zin4 (List.mem_of_getElem? (i := 172) (by decide +kernel)) rfl
theorem mKL_27 : Cond.constantLong RL 27 (4294967295) ∈ zTbl := zin4 (List.mem_of_getElem? (i := 173) (by decide +kernel)) rfl
theorem zX0_in : ∀ w ∈ u_ws RX0 TX0 2, w ∈ zTbl := fun w h => zmem ((show ∀ w ∈ u_ws RX0 TX0 2, w ∈ lw_tbl by decide +kernel) w h) ((show ∀ w ∈ u_ws RX0 TX0 2, zgood w = true by decide +kernel) w h)
theorem zX1_in : ∀ w ∈ u_ws RX1 TX1 2, w ∈ zTbl := fun w h => zmem ((show ∀ w ∈ u_ws RX1 TX1 2, w ∈ lw_tbl by decide +kernel) w h) ((show ∀ w ∈ u_ws RX1 TX1 2, zgood w = true by decide +kernel) w h)
theorem zX2_in : ∀ w ∈ u_ws RX2 TX2 4, w ∈ zTbl := fun w h => zmem ((show ∀ w ∈ u_ws RX2 TX2 4, w ∈ lw_tbl by decide +kernel) w h) ((show ∀ w ∈ u_ws RX2 TX2 4, zgood w = true by decide +kernel) w h)
theorem zX3_in : ∀ w ∈ u_ws RX3 TX3 2, w ∈ zTbl := fun w h => zmem ((show ∀ w ∈ u_ws RX3 TX3 2, w ∈ lw_tbl by decide +kernel) w h) ((show ∀ w ∈ u_ws RX3 TX3 2, zgood w = true by decide +kernel) w h)
theorem zX4_in : ∀ w ∈ u_ws RX4 TX4 7, w ∈ zTbl := fun w h => zmem ((show ∀ w ∈ u_ws RX4 TX4 7, w ∈ lw_tbl by decide +kernel) w h) ((show ∀ w ∈ u_ws RX4 TX4 7, zgood w = true by decide +kernel) w h)
theorem zX5_in : ∀ w ∈ u_ws RX5 TX5 3, w ∈ zTbl := fun w h => zmem ((show ∀ w ∈ u_ws RX5 TX5 3, w ∈ lw_tbl by decide +kernel) w h) ((show ∀ w ∈ u_ws RX5 TX5 3, zgood w = true by decide +kernel) w h)
theorem zX6_in : ∀ w ∈ u_ws RX6 TX6 3, w ∈ zTbl := fun w h => zmem ((show ∀ w ∈ u_ws RX6 TX6 3, w ∈ lw_tbl by decide +kernel) w h) ((show ∀ w ∈ u_ws RX6 TX6 3, zgood w = true by decide +kernel) w h)
theorem zX7_in : ∀ w ∈ u_ws RX7 TX7 11, w ∈ zTbl := fun w h => zmem ((show ∀ w ∈ u_ws RX7 TX7 11, w ∈ lw_tbl by decide +kernel) w h) ((show ∀ w ∈ u_ws RX7 TX7 11, zgood w = true by decide +kernel) w h)
theorem zX8_in : ∀ w ∈ u_ws RX8 TX8 27, w ∈ zTbl := fun w h => zmem ((show ∀ w ∈ u_ws RX8 TX8 27, w ∈ lw_tbl by decide +kernel) w h) ((show ∀ w ∈ u_ws RX8 TX8 27, zgood w = true by decide +kernel) w h)
end
section
/-! A WORLD AS A PARTIAL MAP of addresses: f a = some e says what stands at a; nothing is said of the rest. -/
abbrev zM : Type := Nat → Option va_E
/-- the arrays' kinds: int, long, boolean, and rows of Figure, Family, Constant, Enumeration -/
def zT (cy : Nat → ClassId) : List (ClassId × FieldType) := [(cy 0, .int), (cy 1, .long), (cy 2, .boolean), (cy 3, .object RX4), (cy 4, .object RX3), (cy 5, .object RX0), (cy 6, .object RX1)]
def zH (D : va_G) (A : Nat → Prop) (f : zM) (H : Heap) : Prop := ∀ (a : Nat) (e : va_E), f a = some e → va_at D vwCl (a, e) H ∧ A a
def zA (f : zM) (sz : Nat) : Nat → Prop := fun q => (∃ e : va_E, f q = some e) ∨ sz ≤ q
def zW (U : State) : Prop := ∀ w ∈ zTbl, ∀ a : Array Value, w.before a U = true
def zS (D : va_G) (cy : Nat → ClassId) (f : zM) (sz : Nat) (U : State) : Prop := U.heap.size = sz ∧ zH D (zA f sz) f U.heap ∧ va_K D vwCl (zT cy) U ∧ zW U
def zB (D : va_G) (f : zM) (sz : Nat) : zM → State → Prop := fun f1 t => zH D (zA f sz) f1 t.heap
theorem zTbl_good {w : Cond} (h : w ∈ zTbl) : zgood w = true := (List.mem_filter.mp h).2
theorem zW_warm {s U : State} (hW : s.WarmedH U.vm) (h : zW s) : zW U := by
  intro w hw a
  have g := zTbl_good hw
  have h0 := h w hw a
  cases w <;> first
    | exact word_at hW (Or.inl g) h0
    | exact word_at hW (Or.inr ⟨_, rfl⟩) h0
    | exact va_Nw.use rfl (va_Nw.warmF hW (va_Nw.of rfl h0))
    | exact va_Nw.use rfl (va_Nw.warmM hW (va_Nw.of rfl h0))
    | skip
  rename_i ty
  cases ty <;> first
    | exact va_AO.use (va_AO.moved hW.alike (va_AO.of h0))
    | exact word_at hW (Or.inl g) h0
theorem zW_calling {U : State} {g : JFrame} {mk : MethodId} {a : Array Value} (h : zW U) : zW (U.calling g mk a) := zW_warm (State.WarmedH.refl U) h
theorem zW_of {args : Array Value} {s : State} (h : ∀ w ∈ zTbl, w.before args s = true) : zW s := by
  intro w hw a
  have g := zTbl_good hw
  have h0 := h w hw
  cases w <;> first
    | exact word_at (State.WarmedH.refl s) (Or.inl g) h0
    | exact word_at (State.WarmedH.refl s) (Or.inr ⟨_, rfl⟩) h0
    | exact va_Nw.use rfl (va_Nw.of rfl h0)
    | skip
  rename_i ty
  cases ty <;> first
    | exact va_AO.use (va_AO.of h0)
    | exact word_at (State.WarmedH.refl s) (Or.inl g) h0
/-- the map as a list of cells, in the order of the addresses -/
theorem z_list {D : va_G} {A : Nat → Prop} {f : zM} {H : Heap} (h : zH D A f H) : ∃ ws : va_W, va_P D vwCl ws H ∧ va_D A ws ∧ ∀ (a : Nat) (e : va_E), f a = some e ↔ (a, e) ∈ ws := by
  have key : ∀ (a : Nat) (e : va_E), f a = some e ↔ (a, e) ∈ (List.range H.size).filterMap (fun b => (f b).map (fun x => (b, x))) := by
    intro a e
    rw [List.mem_filterMap]
    constructor
    · intro q
      have hl : a < H.size := (h a e q).1.lt
      exact ⟨a, List.mem_range.mpr hl, by rw [q]; rfl⟩
    · rintro ⟨b, -, q⟩
      cases hb : f b with
      | none => rw [hb] at q; cases q
      | some x =>
        rw [hb] at q
        have q2 : (b, x) = (a, e) := Option.some.inj q
        cases q2
        exact hb
  have hord : List.Pairwise (fun (p q : Nat × va_E) => p.1 < q.1) ((List.range H.size).filterMap (fun b => (f b).map (fun x => (b, x)))) := by
    refine List.Pairwise.filterMap (R := fun a b => a < b) _ ?_ List.pairwise_lt_range
    intro a a' haa b hb b' hb'
    cases h1 : f a with
    | none => rw [h1] at hb; cases hb
    | some x =>
      cases h2 : f a' with
      | none => rw [h2] at hb'; cases hb'
      | some y =>
        rw [h1] at hb
        rw [h2] at hb'
        cases hb
        cases hb'
        exact haa
  refine ⟨_, fun k q hk => ?_, ⟨fun i j p q hi hj hpq => ?_, fun k q hk => ?_⟩, key⟩
  · exact (h q.1 q.2 ((key q.1 q.2).mpr (List.mem_of_getElem? hk))).1
  · rcases Nat.lt_trichotomy i j with hij | hij | hij
    · exfalso
      obtain ⟨hi1, hi2⟩ := List.getElem?_eq_some_iff.mp hi
      obtain ⟨hj1, hj2⟩ := List.getElem?_eq_some_iff.mp hj
      have := List.pairwise_iff_getElem.mp hord i j hi1 hj1 hij
      rw [hi2, hj2] at this
      omega
    · exact hij
    · exfalso
      obtain ⟨hi1, hi2⟩ := List.getElem?_eq_some_iff.mp hi
      obtain ⟨hj1, hj2⟩ := List.getElem?_eq_some_iff.mp hj
      have := List.pairwise_iff_getElem.mp hord j i hj1 hi1 hij
      rw [hi2, hj2] at this
      omega
  · exact (h q.1 q.2 ((key q.1 q.2).mpr (List.mem_of_getElem? hk))).2
theorem z_one {D : va_G} {A : Nat → Prop} {f : zM} {H : Heap} (h : zH D A f H) {a : Nat} {e : va_E} (ha : f a = some e) : va_P D vwCl [(a, e)] H := by
  intro k q hk
  have hz : k < 1 := (List.getElem?_eq_some_iff.mp hk).1
  rw [show k = 0 by omega] at hk
  cases hk
  exact (h a e ha).1
theorem z_set {D : va_G} {A : Nat → Prop} {f : zM} {H : Heap} (h : zH D A f H) {a : Nat} {e0 : va_E} (ha : f a = some e0) : ∃ (ws : va_W) (k : Nat), va_P D vwCl ws H ∧ va_D A ws ∧ ws[k]? = some (a, e0) ∧ (∀ (b : Nat) (eb : va_E), f b = some eb → ∃ j : Nat, ws[j]? = some (b, eb)) ∧
    ∀ (e : va_E) (H1 : Heap), va_P D vwCl (ws.set k (a, e)) H1 → va_D A (ws.set k (a, e)) → zH D A (va_up f a (some e)) H1 := by
  obtain ⟨ws, hP, hD, hm⟩ := z_list h
  obtain ⟨k, hk⟩ := List.getElem?_of_mem ((hm a e0).mp ha)
  have hl := (List.getElem?_eq_some_iff.mp hk).1
  refine ⟨ws, k, hP, hD, hk, fun b eb hb => List.getElem?_of_mem ((hm b eb).mp hb), fun e H1 hP1 hD1 b eb hb => ?_⟩
  by_cases hba : b = a
  · subst hba
    rw [va_up_self] at hb
    cases hb
    have hk1 : (ws.set k (b, e))[k]? = some (b, e) := List.getElem?_set_self hl
    exact ⟨hP1 k _ hk1, hD1.2 k _ hk1⟩
  · rw [va_up_ne f _ hba] at hb
    obtain ⟨j, hj⟩ := List.getElem?_of_mem ((hm b eb).mp hb)
    have hjk : k ≠ j := by
      intro q
      subst q
      rw [hk] at hj
      cases hj
      exact hba rfl
    have hj1 : (ws.set k (a, e))[j]? = some (b, eb) := by rw [List.getElem?_set_ne hjk]; exact hj
    exact ⟨hP1 j _ hj1, hD1.2 j _ hj1⟩
theorem z_push {D : va_G} {A : Nat → Prop} {f : zM} {H : Heap} (h : zH D A f H) : ∃ (ws : va_W), va_P D vwCl ws H ∧ va_D A ws ∧
    ∀ (q : Nat) (e : va_E) (H1 : Heap), va_P D vwCl (ws ++ [(q, e)]) H1 → va_D A (ws ++ [(q, e)]) → f q = none ∧ zH D A (va_up f q (some e)) H1 := by
  obtain ⟨ws, hP, hD, hm⟩ := z_list h
  refine ⟨ws, hP, hD, fun q e H1 hP1 hD1 => ?_⟩
  have hk1 : (ws ++ [(q, e)])[ws.length]? = some (q, e) := by simp
  have hn : f q = none := by
    cases hq : f q with
    | none => rfl
    | some x =>
      exfalso
      obtain ⟨j, hj⟩ := List.getElem?_of_mem ((hm q x).mp hq)
      have hl := (List.getElem?_eq_some_iff.mp hj).1
      have hj1 : (ws ++ [(q, e)])[j]? = some (q, x) := by rw [List.getElem?_append_left hl]; exact hj
      have := hD1.1 j ws.length _ _ hj1 hk1 rfl
      omega
  refine ⟨hn, fun b eb hb => ?_⟩
  by_cases hbq : b = q
  · subst hbq
    rw [va_up_self] at hb
    cases hb
    exact ⟨hP1 _ _ hk1, hD1.2 _ _ hk1⟩
  · rw [va_up_ne f _ hbq] at hb
    obtain ⟨j, hj⟩ := List.getElem?_of_mem ((hm b eb).mp hb)
    have hl := (List.getElem?_eq_some_iff.mp hj).1
    have hj1 : (ws ++ [(q, e)])[j]? = some (b, eb) := by rw [List.getElem?_append_left hl]; exact hj
    exact ⟨hP1 j _ hj1, hD1.2 j _ hj1⟩
theorem z_mono {D : va_G} {A B : Nat → Prop} {f : zM} {H : Heap} (h : zH D A f H) (hAB : ∀ q, A q → B q) : zH D B f H := fun a e q => ⟨(h a e q).1, hAB a (h a e q).2⟩
theorem z_self {D : va_G} {A : Nat → Prop} {f : zM} {H : Heap} (sz : Nat) (h : zH D A f H) : zH D (zA f sz) f H := fun a e q => ⟨(h a e q).1, Or.inl ⟨e, q⟩⟩
theorem z_in {D : va_G} {A0 : Nat → Prop} {f : zM} {H0 H : Heap} {locs : List Loc} (h : zH D A0 f H) (hS : va_S A0 H0 H locs) (hA : ∀ q, H0.size ≤ q → A0 q) : ∀ q, zA f H.size q → A0 q := by
  rintro q (⟨e, he⟩ | hq)
  · exact (h q e he).2
  · exact hA q (Nat.le_trans hS.1 hq)
/-- a class of ours, kind ci, its fields, their types -/
def zL (ci : Nat) (C : String) (T : u_T) (N : Nat) (ty : Nat → FieldType) : Prop := vwCl[ci]? = some (C, T, N) ∧ (∀ w ∈ u_ws C T N, w ∈ zTbl) ∧ (∀ k, k < N → parseFieldDescriptor (T k).2.2.1 = some (ty k)) ∧ ∀ a, a < N → ∀ b, b < N → a ≠ b → (T a).2.1 ≠ (T b).2.1
theorem zl0 : zL 0 RX0 TX0 2 tyX0 := ⟨rfl, zX0_in, tyX0_ok, nmX0⟩
theorem zl1 : zL 1 RX1 TX1 2 tyX1 := ⟨rfl, zX1_in, tyX1_ok, nmX1⟩
theorem zl2 : zL 2 RX2 TX2 4 tyX2 := ⟨rfl, zX2_in, tyX2_ok, nmX2⟩
theorem zl3 : zL 3 RX3 TX3 2 tyX3 := ⟨rfl, zX3_in, tyX3_ok, nmX3⟩
theorem zl4 : zL 4 RX4 TX4 7 tyX4 := ⟨rfl, zX4_in, tyX4_ok, nmX4⟩
theorem zl5 : zL 5 RX5 TX5 3 tyX5 := ⟨rfl, zX5_in, tyX5_ok, nmX5⟩
theorem zl6 : zL 6 RX6 TX6 3 tyX6 := ⟨rfl, zX6_in, tyX6_ok, nmX6⟩
theorem zl7 : zL 7 RX7 TX7 11 tyX7 := ⟨rfl, zX7_in, tyX7_ok, nmX7⟩
theorem zl8 : zL 8 RX8 TX8 27 tyX8 := ⟨rfl, zX8_in, tyX8_ok, nmX8⟩
/-- what holds all through a method's body -/
def zC (D : va_G) (cy : Nat → ClassId) (p : Program) (s : State) (m : MethodId) (args : Array Value) (meth : Method) (c : Code) (own : String) (cc : ByteArray) (nL : Nat) : Prop :=
  p.tables.exec = Jvm.exec ∧ c.code = cc ∧ c.maxLocals = nL ∧ s.vm.findClass own = some m.cls ∧ (∀ w ∈ zTbl, w.before args s = true) ∧ va_K D vwCl (zT cy) s ∧ zW s ∧ meth.locks = false
/-- a method that a call can name: its words -/
def zY (y : MethodName) (bytes : ByteArray) (maxL : Nat) (ret : Option FieldType) (n : Nat) (C : String) : Prop := Cond.code y bytes maxL ret ∈ zTbl ∧ Cond.instanceMethod y ∈ zTbl ∧ Cond.selects C y y ∈ zTbl ∧ Cond.initialized C ∈ zTbl ∧ y.cls = C ∧ y.cls ≠ "java/lang/invoke/MethodHandle" ∧ y.cls ≠ "java/lang/invoke/VarHandle" ∧ (parseMethodDescriptor y.desc).map (fun d => d.parameters.length) = some n
def zYs (y : MethodName) (bytes : ByteArray) (maxL : Nat) (ret : Option FieldType) (n : Nat) (C : String) : Prop := Cond.code y bytes maxL ret ∈ zTbl ∧ Cond.static y ∈ zTbl ∧ Cond.initialized C ∈ zTbl ∧ y.cls = C ∧ y.cls ≠ "java/lang/invoke/MethodHandle" ∧ y.cls ≠ "java/lang/invoke/VarHandle" ∧ (parseMethodDescriptor y.desc).map (fun d => d.parameters.length) = some n
def zYi (y : MethodName) (bytes : ByteArray) (maxL : Nat) (n : Nat) (C : String) : Prop := Cond.code y bytes maxL none ∈ zTbl ∧ Cond.instanceMethod y ∈ zTbl ∧ Cond.initialized C ∈ zTbl ∧ y.name = "<init>" ∧ y.cls = C ∧ y.cls ≠ "java/lang/invoke/MethodHandle" ∧ y.cls ≠ "java/lang/invoke/VarHandle" ∧ (parseMethodDescriptor y.desc).map (fun d => d.parameters.length) = some n
/-- contracts, by what is answered -/
def zCi (l : Launch) (D : va_G) (cy : Nat → ClassId) (y : MethodName) (cc : ByteArray) (maxL : Nat) (ret : Option FieldType) (rm : Room) (av : List Value) (f : zM) (post : Int32 → zM → Prop) : Prop := ∀ sz : Nat, Met l y [.code y cc maxL ret] rm (va_Pc av (zS D cy f sz)) (va_Qi post (zB D f sz) (zA f sz)) rm.cells rm.slots (zA f sz)
def zCl (l : Launch) (D : va_G) (cy : Nat → ClassId) (y : MethodName) (cc : ByteArray) (maxL : Nat) (ret : Option FieldType) (rm : Room) (av : List Value) (f : zM) (post : Int64 → zM → Prop) : Prop := ∀ sz : Nat, Met l y [.code y cc maxL ret] rm (va_Pc av (zS D cy f sz)) (va_Ql post (zB D f sz) (zA f sz)) rm.cells rm.slots (zA f sz)
def zCv (l : Launch) (D : va_G) (cy : Nat → ClassId) (y : MethodName) (cc : ByteArray) (maxL : Nat) (ret : Option FieldType) (rm : Room) (av : List Value) (f : zM) (post : zM → Prop) : Prop := ∀ sz : Nat, Met l y [.code y cc maxL ret] rm (va_Pc av (zS D cy f sz)) (va_Qv post (zB D f sz) (zA f sz)) rm.cells rm.slots (zA f sz)
def zCq (l : Launch) (D : va_G) (cy : Nat → ClassId) (y : MethodName) (cc : ByteArray) (maxL : Nat) (ret : Option FieldType) (rm : Room) (av : List Value) (f : zM) (post : Option Nat → zM → Prop) : Prop := ∀ sz : Nat, Met l y [.code y cc maxL ret] rm (va_Pc av (zS D cy f sz)) (va_Qq post (zB D f sz) (zA f sz)) rm.cells rm.slots (zA f sz)
theorem zPc_blind {D : va_G} {cy : Nat → ClassId} {f : zM} {sz : Nat} {av : List Value} : FrameBlind (va_Pc av (zS D cy f sz)) := by
  rintro a U g mk ⟨h1, h2, h3, h4, h5⟩
  exact ⟨h1, h2, h3, va_K.moved (u := U) (U := U.calling g mk a) (Vm.Alike.refl U.vm) h4, zW_calling h5⟩
theorem zPc_at {D : va_G} {cy : Nat → ClassId} {A : Nat → Prop} {f : zM} {H : Heap} {s : State} {av : List Value} (hz : zH D A f H) (hK : va_K D vwCl (zT cy) s) (hw : zW s) : ∀ U : State, U.heap = H → s.WarmedH U.vm → va_Pc av (zS D cy f H.size) av.toArray U := fun U hU hW => ⟨rfl, by rw [hU], by rw [hU]; exact z_self _ hz, va_K.moved hW.alike hK, zW_warm hW hw⟩
section ZMET
variable {l : Launch} {D : va_G} {cy : Nat → ClassId} {y : MethodName} {cc : ByteArray} {maxL : Nat} {ret : Option FieldType} {rm : Room} {av : List Value} {f : zM}
theorem z_body {Qc : Array Value → State → Outcome → State → Prop} {sz : Nat} (hy : plainName y.cls = true) (hlen : (lg_sl av).length ≤ maxL)
    (body : ∀ p e s m below meth c ls, zC D cy p s m av.toArray meth c y.cls cc maxL → meth.sig.returnType = ret → meth.name = y.name → s.heap.size = sz → zH D (zA f sz) f s.heap → lv_has ls maxL (lv_args 0 av) →
      W p l e rm s m av.toArray below meth c s.heap [] 0 0 (MQ below Qc av.toArray s rm.cells rm.slots (zA f sz)) (F0 m 0 ls [])) :
    Met l y [.code y cc maxL ret] rm (va_Pc av (zS D cy f sz)) Qc rm.cells rm.slots (zA f sz) := by
  refine Met.ofW (cc := cc) (maxL := maxL) (ret := ret) hy rfl ?_
  intro p e s m args below meth c s₁ B hml hv
  obtain ⟨rfl, hsz, hz, hK, hw⟩ := hv
  have hl := lv_entry av (n := maxL) hlen
  rw [lg_entry_eq]
  exact body p e s m below meth c _ ⟨B.exec, B.bytes, hml, findClass_of_methodNamed B.named, fun w h => hw w h _, hK, hw, B.notSynchronized⟩ B.returns (name_of_methodNamed B.named B.method).1 hsz hz hl
end ZMET
section ZW
variable {p : Program} {l : Launch} {e : Env} {R : Room} {s : State} {m : MethodId} {args : Array Value} {below : List Frame} {meth : Method} {c : Code} {H : Heap} {locs : List Loc} {cells slots : Nat} {Q : State → Prop}
variable {cc : ByteArray} {pc nL : Nat} {ls : Array Slot} {rest : List Value} {D : va_G} {cy : Nat → ClassId} {A : Nat → Prop} {f : zM} {a : Nat} {H0 : Heap} {own : String}
theorem z_iret {post : Int32 → zM → Prop} {f1 : zM} {v : Int32} {sz mc ms : Nat} {ret : FieldType} (C : zC D cy p s m args meth c own cc nL) (hr : meth.sig.returnType = some ret) (hn : narrow ret (.int v) = .int v) (hz : zH D (zA f sz) f1 H) (hS : va_S (zA f sz) s.heap H locs) (hp : post v f1) (hc : cells ≤ mc) (hs : slots ≤ ms) (hdg : decode cc pc = .ok (.ireturn, 1)) :
    W p l e R s m args below meth c H locs cells slots (MQ below (va_Qi post (zB D f sz) (zA f sz)) args s mc ms (zA f sz)) (F0 m pc ls [.int v]) := by
  refine W.widen hc hs ?_
  exact W.zret C.1 C.2.1 hr hn (fun t ht hW => ⟨⟨v, f1, rfl, hp, by show zH D (zA f sz) f1 t.heap; rw [ht]; exact hz⟩, hS.F ht⟩) hS.2.2 hdg C.2.2.2.2.2.2.2
theorem z_lret {post : Int64 → zM → Prop} {f1 : zM} {v : Int64} {sz mc ms : Nat} (C : zC D cy p s m args meth c own cc nL) (hr : meth.sig.returnType = some .long) (hz : zH D (zA f sz) f1 H) (hS : va_S (zA f sz) s.heap H locs) (hp : post v f1) (hc : cells ≤ mc) (hs : slots ≤ ms) (hdg : decode cc pc = .ok (.lreturn, 1)) :
    W p l e R s m args below meth c H locs cells slots (MQ below (va_Ql post (zB D f sz) (zA f sz)) args s mc ms (zA f sz)) (F0 m pc ls [.long v]) := by
  refine W.widen hc hs ?_
  exact W.lret C.1 C.2.1 hr (fun t ht hW => ⟨⟨v, f1, rfl, hp, by show zH D (zA f sz) f1 t.heap; rw [ht]; exact hz⟩, hS.F ht⟩) hS.2.2 hdg C.2.2.2.2.2.2.2
theorem z_vret {post : zM → Prop} {f1 : zM} {sz mc ms : Nat} (C : zC D cy p s m args meth c own cc nL) (hr : meth.sig.returnType = none) (hz : zH D (zA f sz) f1 H) (hS : va_S (zA f sz) s.heap H locs) (hp : post f1) (hc : cells ≤ mc) (hs : slots ≤ ms) (hdg : decode cc pc = .ok (.return_, 1)) :
    W p l e R s m args below meth c H locs cells slots (MQ below (va_Qv post (zB D f sz) (zA f sz)) args s mc ms (zA f sz)) (F0 m pc ls []) := by
  refine W.widen hc hs ?_
  exact W.vret C.1 C.2.1 hr (fun t ht hW => ⟨⟨f1, rfl, hp, by show zH D (zA f sz) f1 t.heap; rw [ht]; exact hz⟩, hS.F ht⟩) hS.2.2 hdg C.2.2.2.2.2.2.2
theorem z_aret {post : Option Nat → zM → Prop} {f1 : zM} {r : Option Nat} {v : Value} {sz mc ms : Nat} {rt : FieldType} (C : zC D cy p s m args meth c own cc nL) (hr : meth.sig.returnType = some rt) (hrt : (∃ n, rt = .object n) ∨ ∃ t, rt = .array t) (hv : va_rf r = v) (hz : zH D (zA f sz) f1 H) (hS : va_S (zA f sz) s.heap H locs) (hp : post r f1) (hc : cells ≤ mc) (hs : slots ≤ ms) (hdg : decode cc pc = .ok (.areturn, 1)) :
    W p l e R s m args below meth c H locs cells slots (MQ below (va_Qq post (zB D f sz) (zA f sz)) args s mc ms (zA f sz)) (F0 m pc ls [v]) := by
  subst hv
  refine W.widen hc hs ?_
  exact W.aret C.1 C.2.1 hr hrt (va_rf_or r) (fun t ht hW => ⟨⟨r, f1, rfl, hp, by show zH D (zA f sz) f1 t.heap; rw [ht]; exact hz⟩, hS.F ht⟩) hS.2.2 hdg C.2.2.2.2.2.2.2
theorem z_get {ci N index : Nat} {Cn : String} {T : u_T} {ty : Nat → FieldType} {fs : List Value} {k : Nat} {v : Value} (C : zC D cy p s m args meth c own cc nL) (hz : zH D A f H) (ha : f a = some (.inr (ci, fs))) (hc : zL ci Cn T N ty) (hlink : Cond.fieldLink own index (T k).1 (T k).2.1 (T k).2.2.1 ∈ zTbl) (hk : k < N) (hv : fs[k]? = some v) (hdg : decode cc pc = .ok (.getfield index, 3))
    (kk : W p l e R s m args below meth c H locs cells slots Q (F0 m (pc + 3) ls (v :: rest))) : W p l e R s m args below meth c H locs cells slots Q (F0 m pc ls (.ref a :: rest)) :=
  va_get C.1 C.2.1 C.2.2.2.2.1 hc.2.1 C.2.2.2.1 C.2.2.2.2.2.1 (z_one hz ha) 0 rfl hc.1 k hk (C.2.2.2.2.1 _ hlink) (fun _ h9 => h9) hv hdg kk
theorem z_getN {ci N index : Nat} {Cn host : String} {T : u_T} {ty : Nat → FieldType} {fs : List Value} {k : Nat} {v : Value} (C : zC D cy p s m args meth c own cc nL) (hz : zH D A f H) (ha : f a = some (.inr (ci, fs))) (hc : zL ci Cn T N ty) (hlink : Cond.fieldLinkNest own index (T k).1 (T k).2.1 (T k).2.2.1 host ∈ zTbl) (hk : k < N) (hv : fs[k]? = some v) (hdg : decode cc pc = .ok (.getfield index, 3))
    (kk : W p l e R s m args below meth c H locs cells slots Q (F0 m (pc + 3) ls (v :: rest))) : W p l e R s m args below meth c H locs cells slots Q (F0 m pc ls (.ref a :: rest)) :=
  va_getN C.1 C.2.1 C.2.2.2.2.1 hc.2.1 C.2.2.2.1 C.2.2.2.2.2.1 (z_one hz ha) 0 rfl hc.1 k hk (C.2.2.2.2.1 _ hlink) (fun _ h9 => h9) hv hdg kk
theorem z_put {ci N index : Nat} {Cn : String} {T : u_T} {ty : Nat → FieldType} {fs fs' : List Value} {k : Nat} {v : Value} (C : zC D cy p s m args meth c own cc nL) (hz : zH D A f H) (hS : va_S A H0 H locs) (ha : f a = some (.inr (ci, fs))) (hc : zL ci Cn T N ty) (hlink : Cond.fieldLink own index (T k).1 (T k).2.1 (T k).2.2.1 ∈ zTbl) (hk : k < N) (hfin : (T k).2.2.2 = false) (hn : narrow (ty k) v = v) (hfit : fits (ty k) v = true) (hl : k < fs.length) (hfs : fs.set k v = fs') (hdg : decode cc pc = .ok (.putfield index, 3))
    (kk : ∀ (H1 : Heap) (locs1 : List Loc) (f1 : zM), f1 a = some (.inr (ci, fs')) → (∀ b, b ≠ a → f1 b = f b) → zH D A f1 H1 → va_S A H0 H1 locs1 → W p l e R s m args below meth c H1 locs1 cells slots Q (F0 m (pc + 3) ls rest)) : W p l e R s m args below meth c H locs cells slots Q (F0 m pc ls (v :: .ref a :: rest)) := by
  subst hfs
  obtain ⟨ws, q0, hP, hD, hq, -, hb⟩ := z_set hz ha
  exact va_put C.1 C.2.1 C.2.2.2.2.1 hc.2.1 ty hc.2.2.1 hc.2.2.2 C.2.2.2.1 C.2.2.2.2.2.1 hP hD hS q0 hq hc.1 k hk (C.2.2.2.2.1 _ hlink) (fun _ h9 => h9) hfin (hc.2.2.1 k hk) hn hfit hl hdg (fun H1 locs1 hP1 hD1 hS1 => kk H1 locs1 _ (va_up_self f a _) (fun b h => va_up_ne f _ h) (hb _ H1 hP1 hD1) hS1)
theorem z_putF {ci N index : Nat} {Cn : String} {T : u_T} {ty : Nat → FieldType} {fs fs' : List Value} {k : Nat} {v : Value} (C : zC D cy p s m args meth c own cc nL) (hz : zH D A f H) (hS : va_S A H0 H locs) (ha : f a = some (.inr (ci, fs))) (hc : zL ci Cn T N ty) (hlink : Cond.fieldLink own index (T k).1 (T k).2.1 (T k).2.2.1 ∈ zTbl) (hk : k < N) (hfin : (T k).2.2.2 = true) (hin : meth.name = "<init>") (hdecl : (T k).1 = own) (hn : narrow (ty k) v = v) (hfit : fits (ty k) v = true) (hl : k < fs.length) (hfs : fs.set k v = fs') (hdg : decode cc pc = .ok (.putfield index, 3))
    (kk : ∀ (H1 : Heap) (locs1 : List Loc) (f1 : zM), f1 a = some (.inr (ci, fs')) → (∀ b, b ≠ a → f1 b = f b) → zH D A f1 H1 → va_S A H0 H1 locs1 → W p l e R s m args below meth c H1 locs1 cells slots Q (F0 m (pc + 3) ls rest)) : W p l e R s m args below meth c H locs cells slots Q (F0 m pc ls (v :: .ref a :: rest)) := by
  subst hfs
  obtain ⟨ws, q0, hP, hD, hq, -, hb⟩ := z_set hz ha
  exact va_putF C.1 C.2.1 C.2.2.2.2.1 hc.2.1 ty hc.2.2.1 hc.2.2.2 C.2.2.2.1 C.2.2.2.2.2.1 hP hD hS q0 hq hc.1 k hk (C.2.2.2.2.1 _ hlink) (fun _ h9 => h9) hfin hin hdecl (hc.2.2.1 k hk) hn hfit hl hdg (fun H1 locs1 hP1 hD1 hS1 => kk H1 locs1 _ (va_up_self f a _) (fun b h => va_up_ne f _ h) (hb _ H1 hP1 hD1) hS1)
theorem z_putN {ci N index : Nat} {Cn host : String} {T : u_T} {ty : Nat → FieldType} {fs fs' : List Value} {k : Nat} {v : Value} (C : zC D cy p s m args meth c own cc nL) (hz : zH D A f H) (hS : va_S A H0 H locs) (ha : f a = some (.inr (ci, fs))) (hc : zL ci Cn T N ty) (hlink : Cond.fieldLinkNest own index (T k).1 (T k).2.1 (T k).2.2.1 host ∈ zTbl) (hk : k < N) (hfin : (T k).2.2.2 = false) (hn : narrow (ty k) v = v) (hfit : fits (ty k) v = true) (hl : k < fs.length) (hfs : fs.set k v = fs') (hdg : decode cc pc = .ok (.putfield index, 3))
    (kk : ∀ (H1 : Heap) (locs1 : List Loc) (f1 : zM), f1 a = some (.inr (ci, fs')) → (∀ b, b ≠ a → f1 b = f b) → zH D A f1 H1 → va_S A H0 H1 locs1 → W p l e R s m args below meth c H1 locs1 cells slots Q (F0 m (pc + 3) ls rest)) : W p l e R s m args below meth c H locs cells slots Q (F0 m pc ls (v :: .ref a :: rest)) := by
  subst hfs
  obtain ⟨ws, q0, hP, hD, hq, -, hb⟩ := z_set hz ha
  exact va_putN C.1 C.2.1 C.2.2.2.2.1 hc.2.1 ty hc.2.2.1 hc.2.2.2 C.2.2.2.1 C.2.2.2.2.2.1 hP hD hS q0 hq hc.1 k hk (C.2.2.2.2.1 _ hlink) (fun _ h9 => h9) hfin (hc.2.2.1 k hk) hn hfit hl hdg (fun H1 locs1 hP1 hD1 hS1 => kk H1 locs1 _ (va_up_self f a _) (fun b h => va_up_ne f _ h) (hb _ H1 hP1 hD1) hS1)
theorem z_iald {n : Nat} {g : Nat → Int32} {i : Int32} (j : Nat) (C : zC D cy p s m args meth c own cc nL) (hz : zH D A f H) (ha : f a = some (.inl (cy 0, n, .inl g))) (hi : i = nI j) (hj : j < n) (hn : n < 2 ^ 31) (hdg : decode cc pc = .ok (.iaload, 1))
    (kk : W p l e R s m args below meth c H locs cells slots Q (F0 m (pc + 1) ls (.int (g j) :: rest))) : W p l e R s m args below meth c H locs cells slots Q (F0 m pc ls (.int i :: .ref a :: rest)) := by
  subst hi
  refine va_iald C.1 C.2.1 C.2.2.2.2.2.1 (z_one hz ha) 0 0 rfl rfl (vp_in_nI hj hn) hdg ?_
  rw [nI_clamp (Nat.lt_trans hj hn)]
  exact kk
theorem z_zald {n : Nat} {g : Nat → Int32} {i : Int32} (j : Nat) (C : zC D cy p s m args meth c own cc nL) (hz : zH D A f H) (ha : f a = some (.inl (cy 2, n, .inl g))) (hi : i = nI j) (hj : j < n) (hn : n < 2 ^ 31) (hdg : decode cc pc = .ok (.baload, 1))
    (kk : W p l e R s m args below meth c H locs cells slots Q (F0 m (pc + 1) ls (.int (g j) :: rest))) : W p l e R s m args below meth c H locs cells slots Q (F0 m pc ls (.int i :: .ref a :: rest)) := by
  subst hi
  refine va_zald C.1 C.2.1 C.2.2.2.2.2.1 (z_one hz ha) 0 2 rfl rfl (vp_in_nI hj hn) hdg ?_
  rw [nI_clamp (Nat.lt_trans hj hn)]
  exact kk
theorem z_lald {n : Nat} {g : Nat → Int64} {i : Int32} (j : Nat) (C : zC D cy p s m args meth c own cc nL) (hz : zH D A f H) (ha : f a = some (.inl (cy 1, n, .inr (.inl g)))) (hi : i = nI j) (hj : j < n) (hn : n < 2 ^ 31) (hdg : decode cc pc = .ok (.laload, 1))
    (kk : W p l e R s m args below meth c H locs cells slots Q (F0 m (pc + 1) ls (.long (g j) :: rest))) : W p l e R s m args below meth c H locs cells slots Q (F0 m pc ls (.int i :: .ref a :: rest)) := by
  subst hi
  refine va_lald C.1 C.2.1 C.2.2.2.2.2.1 (z_one hz ha) 0 1 rfl rfl (vp_in_nI hj hn) hdg ?_
  rw [nI_clamp (Nat.lt_trans hj hn)]
  exact kk
theorem z_iast {n : Nat} {g : Nat → Int32} {i : Int32} {x : Int32} (j : Nat) (C : zC D cy p s m args meth c own cc nL) (hz : zH D A f H) (hS : va_S A H0 H locs) (ha : f a = some (.inl (cy 0, n, .inl g))) (hi : i = nI j) (hj : j < n) (hn : n < 2 ^ 31) (hdg : decode cc pc = .ok (.iastore, 1))
    (kk : ∀ (H1 : Heap) (locs1 : List Loc) (f1 : zM), f1 a = some (.inl (cy 0, n, .inl (upd g j x))) → (∀ b, b ≠ a → f1 b = f b) → zH D A f1 H1 → va_S A H0 H1 locs1 → W p l e R s m args below meth c H1 locs1 cells slots Q (F0 m (pc + 1) ls rest)) : W p l e R s m args below meth c H locs cells slots Q (F0 m pc ls (.int x :: .int i :: .ref a :: rest)) := by
  subst hi
  obtain ⟨ws, q0, hP, hD, hq, -, hb⟩ := z_set hz ha
  refine va_iast C.1 C.2.1 C.2.2.2.2.2.1 hP hD hS q0 0 hq rfl (vp_in_nI hj hn) hdg (fun H1 locs1 hP1 hD1 hS1 => ?_)
  refine kk H1 locs1 _ ?_ (fun b h => va_up_ne f _ h) (hb _ H1 hP1 hD1) hS1
  rw [nI_clamp (Nat.lt_trans hj hn)]
  exact va_up_self f a _
theorem z_last {n : Nat} {g : Nat → Int64} {i : Int32} {x : Int64} (j : Nat) (C : zC D cy p s m args meth c own cc nL) (hz : zH D A f H) (hS : va_S A H0 H locs) (ha : f a = some (.inl (cy 1, n, .inr (.inl g)))) (hi : i = nI j) (hj : j < n) (hn : n < 2 ^ 31) (hdg : decode cc pc = .ok (.lastore, 1))
    (kk : ∀ (H1 : Heap) (locs1 : List Loc) (f1 : zM), f1 a = some (.inl (cy 1, n, .inr (.inl (vp_updL g j x)))) → (∀ b, b ≠ a → f1 b = f b) → zH D A f1 H1 → va_S A H0 H1 locs1 → W p l e R s m args below meth c H1 locs1 cells slots Q (F0 m (pc + 1) ls rest)) : W p l e R s m args below meth c H locs cells slots Q (F0 m pc ls (.long x :: .int i :: .ref a :: rest)) := by
  subst hi
  obtain ⟨ws, q0, hP, hD, hq, -, hb⟩ := z_set hz ha
  refine va_last C.1 C.2.1 C.2.2.2.2.2.1 hP hD hS q0 1 hq rfl (vp_in_nI hj hn) hdg (fun H1 locs1 hP1 hD1 hS1 => ?_)
  refine kk H1 locs1 _ ?_ (fun b h => va_up_ne f _ h) (hb _ H1 hP1 hD1) hS1
  rw [nI_clamp (Nat.lt_trans hj hn)]
  exact va_up_self f a _
theorem z_alen {cA : ClassId} {x : vp_A} {v : Int32} (t0 : Nat) {ty : FieldType} (C : zC D cy p s m args meth c own cc nL) (hz : zH D A f H) (ha : f a = some (.inl (cA, x))) (ht : (zT cy)[t0]? = some (cA, ty)) (hv : nI x.1 = v) (hdg : decode cc pc = .ok (.arraylength, 1))
    (kk : W p l e R s m args below meth c H locs cells slots Q (F0 m (pc + 1) ls (.int v :: rest))) : W p l e R s m args below meth c H locs cells slots Q (F0 m pc ls (.ref a :: rest)) :=
  va_alen C.1 C.2.1 C.2.2.2.2.2.1 (z_one hz ha) 0 t0 rfl ht hv hdg kk
theorem z_aldq {n t0 : Nat} {Cn : String} {g : Nat → Option Nat} {i : Int32} (j : Nat) (C : zC D cy p s m args meth c own cc nL) (hz : zH D A f H) (ha : f a = some (.inl (cy t0, n, .inr (.inr (.inr (.inr g)))))) (ht : (zT cy)[t0]? = some (cy t0, .object Cn)) (hi : i = nI j) (hj : j < n) (hn : n < 2 ^ 31) (hdg : decode cc pc = .ok (.aaload, 1))
    (kk : W p l e R s m args below meth c H locs cells slots Q (F0 m (pc + 1) ls (va_rf (g j) :: rest))) : W p l e R s m args below meth c H locs cells slots Q (F0 m pc ls (.int i :: .ref a :: rest)) := by
  subst hi
  refine va_aldq C.1 C.2.1 C.2.2.2.2.2.1 (z_one hz ha) 0 t0 rfl ht (vp_in_nI hj hn) hdg ?_
  rw [nI_clamp (Nat.lt_trans hj hn)]
  exact kk
theorem z_astq {n t0 v ci N : Nat} {Cn : String} {T : u_T} {ty : Nat → FieldType} {vs : List Value} {g : Nat → Option Nat} {i : Int32} (j : Nat) (C : zC D cy p s m args meth c own cc nL) (hz : zH D A f H) (hS : va_S A H0 H locs) (ha : f a = some (.inl (cy t0, n, .inr (.inr (.inr (.inr g)))))) (ht : (zT cy)[t0]? = some (cy t0, .object Cn)) (hv : f v = some (.inr (ci, vs))) (hc : zL ci Cn T N ty) (hi : i = nI j) (hj : j < n) (hn : n < 2 ^ 31) (hdg : decode cc pc = .ok (.aastore, 1))
    (kk : ∀ (H1 : Heap) (locs1 : List Loc) (f1 : zM), f1 a = some (.inl (cy t0, n, .inr (.inr (.inr (.inr (va_up g j (some v))))))) → (∀ b, b ≠ a → f1 b = f b) → zH D A f1 H1 → va_S A H0 H1 locs1 → W p l e R s m args below meth c H1 locs1 cells slots Q (F0 m (pc + 1) ls rest)) : W p l e R s m args below meth c H locs cells slots Q (F0 m pc ls (.ref v :: .int i :: .ref a :: rest)) := by
  subst hi
  obtain ⟨ws, q0, hP, hD, hq, hall, hb⟩ := z_set hz ha
  obtain ⟨qk, hqk⟩ := hall v _ hv
  refine va_astq C.1 C.2.1 C.2.2.2.2.2.1 hP hD hS q0 t0 qk ci hq ht hqk hc.1 (vp_in_nI hj hn) hdg (fun H1 locs1 hP1 hD1 hS1 => ?_)
  refine kk H1 locs1 _ ?_ (fun b h => va_up_ne f _ h) (hb _ H1 hP1 hD1) hS1
  rw [nI_clamp (Nat.lt_trans hj hn)]
  exact va_up_self f a _
theorem z_new {ci N index : Nat} {Cn : String} {T : u_T} {ty : Nat → FieldType} {fs : List Value} (C : zC D cy p s m args meth c own cc nL) (hz : zH D A f H) (hS : va_S A H0 H locs) (hA : ∀ q, H0.size ≤ q → A q) (hc : zL ci Cn T N ty) (hcl : Cond.classLink own index Cn ∈ zTbl) (hinst : Cond.instantiable Cn N ∈ zTbl) (hini : Cond.initialized Cn ∈ zTbl) (hfs : ∀ j, j < N → defaultValue (ty j) = vp_V fs j) (hcells : cells + 1 ≤ R.cells) (hslots : slots + N ≤ R.slots) (hdg : decode cc pc = .ok (.new index, 3))
    (kk : ∀ (q : Nat) (H1 : Heap) (f1 : zM), f q = none → f1 q = some (.inr (ci, fs)) → (∀ b, b ≠ q → f1 b = f b) → zH D A f1 H1 → va_S A H0 H1 locs → W p l e R s m args below meth c H1 locs (cells + 1) (slots + N) Q (F0 m (pc + 3) ls (.ref q :: rest))) : W p l e R s m args below meth c H locs cells slots Q (F0 m pc ls rest) := by
  obtain ⟨ws, hP, hD, hb⟩ := z_push hz
  refine va_new C.1 C.2.1 C.2.2.2.2.1 hc.2.1 ty hc.2.2.1 C.2.2.2.1 (C.2.2.2.2.1 _ hcl) (C.2.2.2.2.1 _ hinst) (C.2.2.2.2.1 _ hini) C.2.2.2.2.2.1 hP hD hS hA hc.1 hfs hcells hslots hdg (fun q H1 hP1 hD1 hS1 => ?_)
  obtain ⟨hn, hz1⟩ := hb q _ H1 hP1 hD1
  exact kk q H1 _ hn (va_up_self f q _) (fun b h => va_up_ne f _ h) hz1 hS1
theorem z_cy {D : va_G} {cl : List vw_C} {tys : List (ClassId × FieldType)} {cA cB : ClassId} {ty : FieldType} {U : State} {n : Nat} (hK : va_K D cl (tys ++ [(cA, ty)]) U) (ht : tys[n]? = some (cB, ty)) : cA = cB := by
  have h1 := (hK.2 tys.length (cA, ty) (by simp)).2
  have h2 := (hK.2 n (cB, ty) (by rw [List.getElem?_append_left (List.getElem?_eq_some_iff.mp ht).1]; exact ht)).2
  cases ty with
  | object C =>
    obtain ⟨_, _, _, _, _, g4⟩ := h1
    obtain ⟨_, _, _, _, _, g5⟩ := h2
    exact Option.some.inj (g4.symm.trans g5)
  | _ => exact Option.some.inj (Eq.trans (Eq.symm h1) h2)
theorem z_newa {t0 N' : Nat} {atype : ArrayType} {ty : FieldType} {n : Int32} {x : (Nat → Int32) ⊕ (Nat → Int64) ⊕ (Nat → UInt32) ⊕ (Nat → UInt64) ⊕ (Nat → Option Nat)} (C : zC D cy p s m args meth c own cc nL) (hz : zH D A f H) (hS : va_S A H0 H locs) (hA : ∀ q, H0.size ≤ q → A q) (hty : newarray.typeOf atype = ty) (harr : Cond.arrayClass ty ∈ zTbl) (ht : (zT cy)[t0]? = some (cy t0, ty)) (ha : ∀ cA : ClassId, vp_cell cA (N', x) = arrV cA N' (fun _ => defaultValue ty)) (hn : n = nI N') (hN : N' < 2 ^ 20) (hcb : componentBytes ty ≤ 8) (hcells : cells + 1 ≤ R.cells) (hslots : slots + N' ≤ R.slots) (hdg : decode cc pc = .ok (.newarray atype, 2))
    (kk : ∀ (q : Nat) (H1 : Heap) (f1 : zM), f q = none → f1 q = some (.inl (cy t0, N', x)) → (∀ b, b ≠ q → f1 b = f b) → zH D A f1 H1 → va_S A H0 H1 locs → W p l e R s m args below meth c H1 locs (cells + 1) (slots + N') Q (F0 m (pc + 2) ls (.ref q :: rest))) : W p l e R s m args below meth c H locs cells slots Q (F0 m pc ls (.int n :: rest)) := by
  subst hty
  subst hn
  obtain ⟨ws, hP, hD, hb⟩ := z_push hz
  refine va_newa (a0 := (N', x)) C.1 C.2.1 (C.2.2.2.2.1 _ harr) rfl C.2.2.2.2.2.1 hP hD hS hA ha (nI_pos (by omega)) (nI_clamp (by omega)) ?_ hcells hslots hdg (fun q cA H1 hK1 hP1 hD1 hS1 => ?_)
  · exact Nat.le_trans (Nat.mul_le_mul (Nat.le_of_lt hN) hcb) (Nat.le_of_ble_eq_true rfl)
  · have hcA := z_cy hK1 ht
    subst hcA
    obtain ⟨hn, hz1⟩ := hb q _ H1 hP1 hD1
    exact kk q H1 _ hn (va_up_self f q _) (fun b h => va_up_ne f _ h) hz1 hS1
theorem z_newq {t0 N' index : Nat} {Cn : String} {n : Int32} (C : zC D cy p s m args meth c own cc nL) (hz : zH D A f H) (hS : va_S A H0 H locs) (hA : ∀ q, H0.size ≤ q → A q) (hcl : Cond.classLink own index Cn ∈ zTbl) (hov : Cond.arrayOver (.object Cn) ∈ zTbl) (ht : (zT cy)[t0]? = some (cy t0, .object Cn)) (hn : n = nI N') (hN : N' < 2 ^ 20) (hcells : cells + 1 ≤ R.cells) (hslots : slots + N' ≤ R.slots) (hdg : decode cc pc = .ok (.anewarray index, 3))
    (kk : ∀ (q : Nat) (H1 : Heap) (f1 : zM), f q = none → f1 q = some (.inl (cy t0, N', .inr (.inr (.inr (.inr (fun _ => none)))))) → (∀ b, b ≠ q → f1 b = f b) → zH D A f1 H1 → va_S A H0 H1 locs → W p l e R s m args below meth c H1 locs (cells + 1) (slots + N') Q (F0 m (pc + 3) ls (.ref q :: rest))) : W p l e R s m args below meth c H locs cells slots Q (F0 m pc ls (.int n :: rest)) := by
  subst hn
  obtain ⟨ws, hP, hD, hb⟩ := z_push hz
  refine va_newq C.1 C.2.1 C.2.2.2.1 (C.2.2.2.2.1 _ hcl) (va_AO.of (C.2.2.2.2.1 _ hov)) C.2.2.2.2.2.1 hP hD hS hA (nI_pos (by omega)) (nI_clamp (by omega)) (by omega) hcells hslots hdg (fun q cA H1 hK1 hP1 hD1 hS1 => ?_)
  have hcA := z_cy hK1 ht
  subst hcA
  obtain ⟨hn, hz1⟩ := hb q _ H1 hP1 hD1
  exact kk q H1 _ hn (va_up_self f q _) (fun b h => va_up_ne f _ h) hz1 hS1
theorem z_objI {idx : Nat} {lv : List (Nat × Value)} (C : zC D cy p s m args meth c own cc nL) (hl : lv_has ls nL lv) (hlink : Cond.methodLink own idx Lib.objectInit ∈ zTbl) (hR1 : 1 ≤ R.frames) (hR2 : 12 ≤ R.locals) (hdg : decode cc pc = .ok (.invokespecial idx, 3))
    (kk : W p l e R s m args below meth c H locs cells slots Q (F0 m (pc + 3) ls [])) : W p l e R s m args below meth c H locs cells slots Q (F0 m pc ls [.ref a]) :=
  W.objInit C.1 C.2.1 C.2.2.2.1 (C.2.2.2.2.1 _ hlink) (C.2.2.2.2.1 _ mI_yObj) (C.2.2.2.2.1 _ mC_yObj) rfl (by rw [C.2.2.1]; exact hl.1) rfl hdg hR1 hR2 kk
theorem z_callVi {y : MethodName} {bytes : ByteArray} {maxL n index : Nat} {ret : Option FieldType} {rm : Room} {b : Addr} {As st : List Value} {Cn : String} {post : Int32 → zM → Prop} {ci N : Nat} {T : u_T} {ty : Nat → FieldType} {fs : List Value} {lv : List (Nat × Value)} (C : zC D cy p s m args meth c own cc nL) (hz : zH D A f H) (hS : va_S A H0 H locs) (hA : ∀ q, H0.size ≤ q → A q) (hl : lv_has ls nL lv) (hM : zCi l D cy y bytes maxL ret rm (.ref b :: As) f post) (hy : zY y bytes maxL ret n Cn) (hlink : Cond.methodLink own index y ∈ zTbl) (hb : f b = some (.inr (ci, fs))) (hcl : zL ci Cn T N ty) (hn : As.length = n) (hst : st = As.reverse ++ .ref b :: rest) (hW : (rest.map fun v => v.category).sum ≤ 8) (hR : rm.frames + 1 ≤ R.frames ∧ 8 + (maxL + 11) + rm.locals ≤ R.locals) (hf : cells + rm.cells ≤ R.cells ∧ slots + rm.slots ≤ R.slots) (hdg : decode cc pc = .ok (.invokevirtual index, 3))
    (kk : ∀ (r : Int32) (f1 : zM) (H1 : Heap) (locs1 : List Loc), post r f1 → zH D A f1 H1 → va_S A H0 H1 locs1 → W p l e R s m args below meth c H1 locs1 (cells + rm.cells) (slots + rm.slots) Q (F0 m (pc + 3) ls (.int r :: rest))) : W p l e R s m args below meth c H locs cells slots Q (F0 m pc ls st) := by
  obtain ⟨y1, y2, y3, y4, y5, y6, y7, y8⟩ := hy
  subst y5
  have hG : GoodIn zTbl [Cond.code y bytes maxL ret] := fun w h => by
    rw [List.mem_singleton.mp h]
    exact ⟨y1, Or.inl rfl⟩
  have hF := z_in hz hS hA
  have hc9 := C.2.2.2.2.1
  refine va_calli (va_runV (As := As) (rest := rest) ⟨C.1, C.2.1, C.2.2.1, C.2.2.2.1, hc9⟩ (hM H.size) ⟨callB_of n hc9 hG rfl rfl rfl (hc9 _ y4) (hc9 _ hlink) ⟨y6, y7, y8⟩ hR, hc9 _ y2, hc9 _ y3⟩ ⟨zPc_blind, va_recv C.2.2.2.2.2.1 (z_one hz hb) (ci := ci) (q0 := 0) hcl.1 rfl, zPc_at hz C.2.2.2.2.2.1 C.2.2.2.2.2.2.1⟩ rfl hn hl.1 hst (lv_room hW) hdg hf) hS (fun q _ h => hF q h) hF (fun r u t H1 locs1 ht hvm hp hB hz1 hk1 hS1 => ?_)
  refine kk r u H1 locs1 hp ?_ hS1
  have hB2 : zH D (zA f H.size) u H1 := by rw [← ht]; exact hB
  exact z_mono hB2 hF
theorem z_callVl {y : MethodName} {bytes : ByteArray} {maxL n index : Nat} {ret : Option FieldType} {rm : Room} {b : Addr} {As st : List Value} {Cn : String} {post : Int64 → zM → Prop} {ci N : Nat} {T : u_T} {ty : Nat → FieldType} {fs : List Value} {lv : List (Nat × Value)} (C : zC D cy p s m args meth c own cc nL) (hz : zH D A f H) (hS : va_S A H0 H locs) (hA : ∀ q, H0.size ≤ q → A q) (hl : lv_has ls nL lv) (hM : zCl l D cy y bytes maxL ret rm (.ref b :: As) f post) (hy : zY y bytes maxL ret n Cn) (hlink : Cond.methodLink own index y ∈ zTbl) (hb : f b = some (.inr (ci, fs))) (hcl : zL ci Cn T N ty) (hn : As.length = n) (hst : st = As.reverse ++ .ref b :: rest) (hW : (rest.map fun v => v.category).sum ≤ 8) (hR : rm.frames + 1 ≤ R.frames ∧ 8 + (maxL + 11) + rm.locals ≤ R.locals) (hf : cells + rm.cells ≤ R.cells ∧ slots + rm.slots ≤ R.slots) (hdg : decode cc pc = .ok (.invokevirtual index, 3))
    (kk : ∀ (r : Int64) (f1 : zM) (H1 : Heap) (locs1 : List Loc), post r f1 → zH D A f1 H1 → va_S A H0 H1 locs1 → W p l e R s m args below meth c H1 locs1 (cells + rm.cells) (slots + rm.slots) Q (F0 m (pc + 3) ls (.long r :: rest))) : W p l e R s m args below meth c H locs cells slots Q (F0 m pc ls st) := by
  obtain ⟨y1, y2, y3, y4, y5, y6, y7, y8⟩ := hy
  subst y5
  have hG : GoodIn zTbl [Cond.code y bytes maxL ret] := fun w h => by
    rw [List.mem_singleton.mp h]
    exact ⟨y1, Or.inl rfl⟩
  have hF := z_in hz hS hA
  have hc9 := C.2.2.2.2.1
  refine va_calll (va_runV (As := As) (rest := rest) ⟨C.1, C.2.1, C.2.2.1, C.2.2.2.1, hc9⟩ (hM H.size) ⟨callB_of n hc9 hG rfl rfl rfl (hc9 _ y4) (hc9 _ hlink) ⟨y6, y7, y8⟩ hR, hc9 _ y2, hc9 _ y3⟩ ⟨zPc_blind, va_recv C.2.2.2.2.2.1 (z_one hz hb) (ci := ci) (q0 := 0) hcl.1 rfl, zPc_at hz C.2.2.2.2.2.1 C.2.2.2.2.2.2.1⟩ rfl hn hl.1 hst (lv_room hW) hdg hf) hS (fun q _ h => hF q h) hF (fun r u t H1 locs1 ht hvm hp hB hz1 hk1 hS1 => ?_)
  refine kk r u H1 locs1 hp ?_ hS1
  have hB2 : zH D (zA f H.size) u H1 := by rw [← ht]; exact hB
  exact z_mono hB2 hF
theorem z_callVv {y : MethodName} {bytes : ByteArray} {maxL n index : Nat} {ret : Option FieldType} {rm : Room} {b : Addr} {As st : List Value} {Cn : String} {post : zM → Prop} {ci N : Nat} {T : u_T} {ty : Nat → FieldType} {fs : List Value} {lv : List (Nat × Value)} (C : zC D cy p s m args meth c own cc nL) (hz : zH D A f H) (hS : va_S A H0 H locs) (hA : ∀ q, H0.size ≤ q → A q) (hl : lv_has ls nL lv) (hM : zCv l D cy y bytes maxL ret rm (.ref b :: As) f post) (hy : zY y bytes maxL ret n Cn) (hlink : Cond.methodLink own index y ∈ zTbl) (hb : f b = some (.inr (ci, fs))) (hcl : zL ci Cn T N ty) (hn : As.length = n) (hst : st = As.reverse ++ .ref b :: rest) (hW : (rest.map fun v => v.category).sum ≤ 8) (hR : rm.frames + 1 ≤ R.frames ∧ 8 + (maxL + 11) + rm.locals ≤ R.locals) (hf : cells + rm.cells ≤ R.cells ∧ slots + rm.slots ≤ R.slots) (hdg : decode cc pc = .ok (.invokevirtual index, 3))
    (kk : ∀ (f1 : zM) (H1 : Heap) (locs1 : List Loc), post f1 → zH D A f1 H1 → va_S A H0 H1 locs1 → W p l e R s m args below meth c H1 locs1 (cells + rm.cells) (slots + rm.slots) Q (F0 m (pc + 3) ls rest)) : W p l e R s m args below meth c H locs cells slots Q (F0 m pc ls st) := by
  obtain ⟨y1, y2, y3, y4, y5, y6, y7, y8⟩ := hy
  subst y5
  have hG : GoodIn zTbl [Cond.code y bytes maxL ret] := fun w h => by
    rw [List.mem_singleton.mp h]
    exact ⟨y1, Or.inl rfl⟩
  have hF := z_in hz hS hA
  have hc9 := C.2.2.2.2.1
  refine va_callv (va_runV (As := As) (rest := rest) ⟨C.1, C.2.1, C.2.2.1, C.2.2.2.1, hc9⟩ (hM H.size) ⟨callB_of n hc9 hG rfl rfl rfl (hc9 _ y4) (hc9 _ hlink) ⟨y6, y7, y8⟩ hR, hc9 _ y2, hc9 _ y3⟩ ⟨zPc_blind, va_recv C.2.2.2.2.2.1 (z_one hz hb) (ci := ci) (q0 := 0) hcl.1 rfl, zPc_at hz C.2.2.2.2.2.1 C.2.2.2.2.2.2.1⟩ rfl hn hl.1 hst (lv_room hW) hdg hf) hS (fun q _ h => hF q h) hF (fun u t H1 locs1 ht hvm hp hB hz1 hk1 hS1 => ?_)
  refine kk u H1 locs1 hp ?_ hS1
  have hB2 : zH D (zA f H.size) u H1 := by rw [← ht]; exact hB
  exact z_mono hB2 hF
theorem z_callVq {y : MethodName} {bytes : ByteArray} {maxL n index : Nat} {ret : Option FieldType} {rm : Room} {b : Addr} {As st : List Value} {Cn : String} {post : Option Nat → zM → Prop} {ci N : Nat} {T : u_T} {ty : Nat → FieldType} {fs : List Value} {lv : List (Nat × Value)} (C : zC D cy p s m args meth c own cc nL) (hz : zH D A f H) (hS : va_S A H0 H locs) (hA : ∀ q, H0.size ≤ q → A q) (hl : lv_has ls nL lv) (hM : zCq l D cy y bytes maxL ret rm (.ref b :: As) f post) (hy : zY y bytes maxL ret n Cn) (hlink : Cond.methodLink own index y ∈ zTbl) (hb : f b = some (.inr (ci, fs))) (hcl : zL ci Cn T N ty) (hn : As.length = n) (hst : st = As.reverse ++ .ref b :: rest) (hW : (rest.map fun v => v.category).sum ≤ 8) (hR : rm.frames + 1 ≤ R.frames ∧ 8 + (maxL + 11) + rm.locals ≤ R.locals) (hf : cells + rm.cells ≤ R.cells ∧ slots + rm.slots ≤ R.slots) (hdg : decode cc pc = .ok (.invokevirtual index, 3))
    (kk : ∀ (r : Option Nat) (f1 : zM) (H1 : Heap) (locs1 : List Loc), post r f1 → zH D A f1 H1 → va_S A H0 H1 locs1 → W p l e R s m args below meth c H1 locs1 (cells + rm.cells) (slots + rm.slots) Q (F0 m (pc + 3) ls (va_rf r :: rest))) : W p l e R s m args below meth c H locs cells slots Q (F0 m pc ls st) := by
  obtain ⟨y1, y2, y3, y4, y5, y6, y7, y8⟩ := hy
  subst y5
  have hG : GoodIn zTbl [Cond.code y bytes maxL ret] := fun w h => by
    rw [List.mem_singleton.mp h]
    exact ⟨y1, Or.inl rfl⟩
  have hF := z_in hz hS hA
  have hc9 := C.2.2.2.2.1
  refine va_callq (va_runV (As := As) (rest := rest) ⟨C.1, C.2.1, C.2.2.1, C.2.2.2.1, hc9⟩ (hM H.size) ⟨callB_of n hc9 hG rfl rfl rfl (hc9 _ y4) (hc9 _ hlink) ⟨y6, y7, y8⟩ hR, hc9 _ y2, hc9 _ y3⟩ ⟨zPc_blind, va_recv C.2.2.2.2.2.1 (z_one hz hb) (ci := ci) (q0 := 0) hcl.1 rfl, zPc_at hz C.2.2.2.2.2.1 C.2.2.2.2.2.2.1⟩ rfl hn hl.1 hst (lv_room hW) hdg hf) hS (fun q _ h => hF q h) hF (fun r u t H1 locs1 ht hvm hp hB hz1 hk1 hS1 => ?_)
  refine kk r u H1 locs1 hp ?_ hS1
  have hB2 : zH D (zA f H.size) u H1 := by rw [← ht]; exact hB
  exact z_mono hB2 hF
theorem z_callSi {y : MethodName} {bytes : ByteArray} {maxL n index : Nat} {ret : Option FieldType} {rm : Room} {As st : List Value} {Cn : String} {post : Int32 → zM → Prop} {lv : List (Nat × Value)} (C : zC D cy p s m args meth c own cc nL) (hz : zH D A f H) (hS : va_S A H0 H locs) (hA : ∀ q, H0.size ≤ q → A q) (hl : lv_has ls nL lv) (hM : zCi l D cy y bytes maxL ret rm As f post) (hy : zYs y bytes maxL ret n Cn) (hlink : Cond.methodLink own index y ∈ zTbl) (hn : As.length = n) (hst : st = As.reverse ++ rest) (hW : (rest.map fun v => v.category).sum ≤ 8) (hR : rm.frames + 1 ≤ R.frames ∧ 8 + (maxL + 11) + rm.locals ≤ R.locals) (hf : cells + rm.cells ≤ R.cells ∧ slots + rm.slots ≤ R.slots) (hdg : decode cc pc = .ok (.invokestatic index, 3))
    (kk : ∀ (r : Int32) (f1 : zM) (H1 : Heap) (locs1 : List Loc), post r f1 → zH D A f1 H1 → va_S A H0 H1 locs1 → W p l e R s m args below meth c H1 locs1 (cells + rm.cells) (slots + rm.slots) Q (F0 m (pc + 3) ls (.int r :: rest))) : W p l e R s m args below meth c H locs cells slots Q (F0 m pc ls st) := by
  obtain ⟨y1, y2, y4, y5, y6, y7, y8⟩ := hy
  subst y5
  have hG : GoodIn zTbl [Cond.code y bytes maxL ret] := fun w h => by
    rw [List.mem_singleton.mp h]
    exact ⟨y1, Or.inl rfl⟩
  have hF := z_in hz hS hA
  have hc9 := C.2.2.2.2.1
  refine va_calli (va_runS (As := As) (rest := rest) ⟨C.1, C.2.1, C.2.2.1, C.2.2.2.1, hc9⟩ (hM H.size) ⟨callB_of n hc9 hG rfl rfl rfl (hc9 _ y4) (hc9 _ hlink) ⟨y6, y7, y8⟩ hR, hc9 _ y2⟩ ⟨zPc_blind, zPc_at hz C.2.2.2.2.2.1 C.2.2.2.2.2.2.1⟩ rfl hn hl.1 hst (lv_room hW) hdg hf) hS (fun q _ h => hF q h) hF (fun r u t H1 locs1 ht hvm hp hB hz1 hk1 hS1 => ?_)
  refine kk r u H1 locs1 hp ?_ hS1
  have hB2 : zH D (zA f H.size) u H1 := by rw [← ht]; exact hB
  exact z_mono hB2 hF
theorem z_callSl {y : MethodName} {bytes : ByteArray} {maxL n index : Nat} {ret : Option FieldType} {rm : Room} {As st : List Value} {Cn : String} {post : Int64 → zM → Prop} {lv : List (Nat × Value)} (C : zC D cy p s m args meth c own cc nL) (hz : zH D A f H) (hS : va_S A H0 H locs) (hA : ∀ q, H0.size ≤ q → A q) (hl : lv_has ls nL lv) (hM : zCl l D cy y bytes maxL ret rm As f post) (hy : zYs y bytes maxL ret n Cn) (hlink : Cond.methodLink own index y ∈ zTbl) (hn : As.length = n) (hst : st = As.reverse ++ rest) (hW : (rest.map fun v => v.category).sum ≤ 8) (hR : rm.frames + 1 ≤ R.frames ∧ 8 + (maxL + 11) + rm.locals ≤ R.locals) (hf : cells + rm.cells ≤ R.cells ∧ slots + rm.slots ≤ R.slots) (hdg : decode cc pc = .ok (.invokestatic index, 3))
    (kk : ∀ (r : Int64) (f1 : zM) (H1 : Heap) (locs1 : List Loc), post r f1 → zH D A f1 H1 → va_S A H0 H1 locs1 → W p l e R s m args below meth c H1 locs1 (cells + rm.cells) (slots + rm.slots) Q (F0 m (pc + 3) ls (.long r :: rest))) : W p l e R s m args below meth c H locs cells slots Q (F0 m pc ls st) := by
  obtain ⟨y1, y2, y4, y5, y6, y7, y8⟩ := hy
  subst y5
  have hG : GoodIn zTbl [Cond.code y bytes maxL ret] := fun w h => by
    rw [List.mem_singleton.mp h]
    exact ⟨y1, Or.inl rfl⟩
  have hF := z_in hz hS hA
  have hc9 := C.2.2.2.2.1
  refine va_calll (va_runS (As := As) (rest := rest) ⟨C.1, C.2.1, C.2.2.1, C.2.2.2.1, hc9⟩ (hM H.size) ⟨callB_of n hc9 hG rfl rfl rfl (hc9 _ y4) (hc9 _ hlink) ⟨y6, y7, y8⟩ hR, hc9 _ y2⟩ ⟨zPc_blind, zPc_at hz C.2.2.2.2.2.1 C.2.2.2.2.2.2.1⟩ rfl hn hl.1 hst (lv_room hW) hdg hf) hS (fun q _ h => hF q h) hF (fun r u t H1 locs1 ht hvm hp hB hz1 hk1 hS1 => ?_)
  refine kk r u H1 locs1 hp ?_ hS1
  have hB2 : zH D (zA f H.size) u H1 := by rw [← ht]; exact hB
  exact z_mono hB2 hF
theorem z_callSv {y : MethodName} {bytes : ByteArray} {maxL n index : Nat} {ret : Option FieldType} {rm : Room} {As st : List Value} {Cn : String} {post : zM → Prop} {lv : List (Nat × Value)} (C : zC D cy p s m args meth c own cc nL) (hz : zH D A f H) (hS : va_S A H0 H locs) (hA : ∀ q, H0.size ≤ q → A q) (hl : lv_has ls nL lv) (hM : zCv l D cy y bytes maxL ret rm As f post) (hy : zYs y bytes maxL ret n Cn) (hlink : Cond.methodLink own index y ∈ zTbl) (hn : As.length = n) (hst : st = As.reverse ++ rest) (hW : (rest.map fun v => v.category).sum ≤ 8) (hR : rm.frames + 1 ≤ R.frames ∧ 8 + (maxL + 11) + rm.locals ≤ R.locals) (hf : cells + rm.cells ≤ R.cells ∧ slots + rm.slots ≤ R.slots) (hdg : decode cc pc = .ok (.invokestatic index, 3))
    (kk : ∀ (f1 : zM) (H1 : Heap) (locs1 : List Loc), post f1 → zH D A f1 H1 → va_S A H0 H1 locs1 → W p l e R s m args below meth c H1 locs1 (cells + rm.cells) (slots + rm.slots) Q (F0 m (pc + 3) ls rest)) : W p l e R s m args below meth c H locs cells slots Q (F0 m pc ls st) := by
  obtain ⟨y1, y2, y4, y5, y6, y7, y8⟩ := hy
  subst y5
  have hG : GoodIn zTbl [Cond.code y bytes maxL ret] := fun w h => by
    rw [List.mem_singleton.mp h]
    exact ⟨y1, Or.inl rfl⟩
  have hF := z_in hz hS hA
  have hc9 := C.2.2.2.2.1
  refine va_callv (va_runS (As := As) (rest := rest) ⟨C.1, C.2.1, C.2.2.1, C.2.2.2.1, hc9⟩ (hM H.size) ⟨callB_of n hc9 hG rfl rfl rfl (hc9 _ y4) (hc9 _ hlink) ⟨y6, y7, y8⟩ hR, hc9 _ y2⟩ ⟨zPc_blind, zPc_at hz C.2.2.2.2.2.1 C.2.2.2.2.2.2.1⟩ rfl hn hl.1 hst (lv_room hW) hdg hf) hS (fun q _ h => hF q h) hF (fun u t H1 locs1 ht hvm hp hB hz1 hk1 hS1 => ?_)
  refine kk u H1 locs1 hp ?_ hS1
  have hB2 : zH D (zA f H.size) u H1 := by rw [← ht]; exact hB
  exact z_mono hB2 hF
theorem z_callSq {y : MethodName} {bytes : ByteArray} {maxL n index : Nat} {ret : Option FieldType} {rm : Room} {As st : List Value} {Cn : String} {post : Option Nat → zM → Prop} {lv : List (Nat × Value)} (C : zC D cy p s m args meth c own cc nL) (hz : zH D A f H) (hS : va_S A H0 H locs) (hA : ∀ q, H0.size ≤ q → A q) (hl : lv_has ls nL lv) (hM : zCq l D cy y bytes maxL ret rm As f post) (hy : zYs y bytes maxL ret n Cn) (hlink : Cond.methodLink own index y ∈ zTbl) (hn : As.length = n) (hst : st = As.reverse ++ rest) (hW : (rest.map fun v => v.category).sum ≤ 8) (hR : rm.frames + 1 ≤ R.frames ∧ 8 + (maxL + 11) + rm.locals ≤ R.locals) (hf : cells + rm.cells ≤ R.cells ∧ slots + rm.slots ≤ R.slots) (hdg : decode cc pc = .ok (.invokestatic index, 3))
    (kk : ∀ (r : Option Nat) (f1 : zM) (H1 : Heap) (locs1 : List Loc), post r f1 → zH D A f1 H1 → va_S A H0 H1 locs1 → W p l e R s m args below meth c H1 locs1 (cells + rm.cells) (slots + rm.slots) Q (F0 m (pc + 3) ls (va_rf r :: rest))) : W p l e R s m args below meth c H locs cells slots Q (F0 m pc ls st) := by
  obtain ⟨y1, y2, y4, y5, y6, y7, y8⟩ := hy
  subst y5
  have hG : GoodIn zTbl [Cond.code y bytes maxL ret] := fun w h => by
    rw [List.mem_singleton.mp h]
    exact ⟨y1, Or.inl rfl⟩
  have hF := z_in hz hS hA
  have hc9 := C.2.2.2.2.1
  refine va_callq (va_runS (As := As) (rest := rest) ⟨C.1, C.2.1, C.2.2.1, C.2.2.2.1, hc9⟩ (hM H.size) ⟨callB_of n hc9 hG rfl rfl rfl (hc9 _ y4) (hc9 _ hlink) ⟨y6, y7, y8⟩ hR, hc9 _ y2⟩ ⟨zPc_blind, zPc_at hz C.2.2.2.2.2.1 C.2.2.2.2.2.2.1⟩ rfl hn hl.1 hst (lv_room hW) hdg hf) hS (fun q _ h => hF q h) hF (fun r u t H1 locs1 ht hvm hp hB hz1 hk1 hS1 => ?_)
  refine kk r u H1 locs1 hp ?_ hS1
  have hB2 : zH D (zA f H.size) u H1 := by rw [← ht]; exact hB
  exact z_mono hB2 hF
theorem z_callIv {y : MethodName} {bytes : ByteArray} {maxL n index : Nat} {ret : Option FieldType} {rm : Room} {b : Addr} {As st : List Value} {Cn : String} {post : zM → Prop} {lv : List (Nat × Value)} (C : zC D cy p s m args meth c own cc nL) (hz : zH D A f H) (hS : va_S A H0 H locs) (hA : ∀ q, H0.size ≤ q → A q) (hl : lv_has ls nL lv) (hM : zCv l D cy y bytes maxL none rm (.ref b :: As) f post) (hy : zYi y bytes maxL n Cn) (hlink : Cond.methodLink own index y ∈ zTbl) (hn : As.length = n) (hst : st = As.reverse ++ .ref b :: rest) (hW : (rest.map fun v => v.category).sum ≤ 8) (hR : rm.frames + 1 ≤ R.frames ∧ 8 + (maxL + 11) + rm.locals ≤ R.locals) (hf : cells + rm.cells ≤ R.cells ∧ slots + rm.slots ≤ R.slots) (hdg : decode cc pc = .ok (.invokespecial index, 3))
    (kk : ∀ (f1 : zM) (H1 : Heap) (locs1 : List Loc), post f1 → zH D A f1 H1 → va_S A H0 H1 locs1 → W p l e R s m args below meth c H1 locs1 (cells + rm.cells) (slots + rm.slots) Q (F0 m (pc + 3) ls rest)) : W p l e R s m args below meth c H locs cells slots Q (F0 m pc ls st) := by
  obtain ⟨y1, y2, y4, y9, y5, y6, y7, y8⟩ := hy
  subst y5
  have hG : GoodIn zTbl [Cond.code y bytes maxL none] := fun w h => by
    rw [List.mem_singleton.mp h]
    exact ⟨y1, Or.inl rfl⟩
  have hF := z_in hz hS hA
  have hc9 := C.2.2.2.2.1
  refine va_callv (va_runI (As := As) (rest := rest) ⟨C.1, C.2.1, C.2.2.1, C.2.2.2.1, hc9⟩ (hM H.size) ⟨callB_of n hc9 hG rfl rfl rfl (hc9 _ y4) (hc9 _ hlink) ⟨y6, y7, y8⟩ hR, y9, hc9 _ y2⟩ ⟨zPc_blind, zPc_at hz C.2.2.2.2.2.1 C.2.2.2.2.2.2.1⟩ rfl hn hl.1 hst (lv_room hW) hdg hf) hS (fun q _ h => hF q h) hF (fun u t H1 locs1 ht hvm hp hB hz1 hk1 hS1 => ?_)
  refine kk u H1 locs1 hp ?_ hS1
  have hB2 : zH D (zA f H.size) u H1 := by rw [← ht]; exact hB
  exact z_mono hB2 hF
theorem z_callINv {y : MethodName} {bytes : ByteArray} {maxL n index : Nat} {ret : Option FieldType} {rm : Room} {b : Addr} {As st : List Value} {Cn : String} {post : zM → Prop} {host : String} {lv : List (Nat × Value)} (C : zC D cy p s m args meth c own cc nL) (hz : zH D A f H) (hS : va_S A H0 H locs) (hA : ∀ q, H0.size ≤ q → A q) (hl : lv_has ls nL lv) (hM : zCv l D cy y bytes maxL none rm (.ref b :: As) f post) (hy : zYi y bytes maxL n Cn) (hlink : Cond.methodLinkNest own index y host ∈ zTbl) (hn : As.length = n) (hst : st = As.reverse ++ .ref b :: rest) (hW : (rest.map fun v => v.category).sum ≤ 8) (hR : rm.frames + 1 ≤ R.frames ∧ 8 + (maxL + 11) + rm.locals ≤ R.locals) (hf : cells + rm.cells ≤ R.cells ∧ slots + rm.slots ≤ R.slots) (hdg : decode cc pc = .ok (.invokespecial index, 3))
    (kk : ∀ (f1 : zM) (H1 : Heap) (locs1 : List Loc), post f1 → zH D A f1 H1 → va_S A H0 H1 locs1 → W p l e R s m args below meth c H1 locs1 (cells + rm.cells) (slots + rm.slots) Q (F0 m (pc + 3) ls rest)) : W p l e R s m args below meth c H locs cells slots Q (F0 m pc ls st) := by
  obtain ⟨y1, y2, y4, y9, y5, y6, y7, y8⟩ := hy
  subst y5
  have hG : GoodIn zTbl [Cond.code y bytes maxL none] := fun w h => by
    rw [List.mem_singleton.mp h]
    exact ⟨y1, Or.inl rfl⟩
  have hF := z_in hz hS hA
  have hc9 := C.2.2.2.2.1
  refine va_callv (va_runIN (As := As) (rest := rest) ⟨C.1, C.2.1, C.2.2.1, C.2.2.2.1, hc9⟩ (hM H.size) ⟨va_cnB n hc9 hG rfl rfl rfl (va_Nw.of rfl (hc9 _ hlink)) (hc9 _ y4) ⟨y6, y7, y8⟩ hR, y9, hc9 _ y2⟩ ⟨zPc_blind, zPc_at hz C.2.2.2.2.2.1 C.2.2.2.2.2.2.1⟩ rfl hn hl.1 hst (lv_room hW) hdg hf) hS (fun q _ h => hF q h) hF (fun u t H1 locs1 ht hvm hp hB hz1 hk1 hS1 => ?_)
  refine kk u H1 locs1 hp ?_ hS1
  have hB2 : zH D (zA f H.size) u H1 := by rw [← ht]; exact hB
  exact z_mono hB2 hF
end ZW
end
section
theorem dX0_init_0 : decode cX0_init 0 = .ok (.aload_n 0, 1) := by decide +kernel
theorem dX0_init_1 : decode cX0_init 1 = .ok (.invokespecial 1, 3) := by decide +kernel
theorem dX0_init_4 : decode cX0_init 4 = .ok (.aload_n 0, 1) := by decide +kernel
theorem dX0_init_5 : decode cX0_init 5 = .ok (.iload_n 1, 1) := by decide +kernel
theorem dX0_init_6 : decode cX0_init 6 = .ok (.putfield 7, 3) := by decide +kernel
theorem dX0_init_9 : decode cX0_init 9 = .ok (.aload_n 0, 1) := by decide +kernel
theorem dX0_init_10 : decode cX0_init 10 = .ok (.iload_n 2, 1) := by decide +kernel
theorem dX0_init_11 : decode cX0_init 11 = .ok (.putfield 13, 3) := by decide +kernel
theorem dX0_init_14 : decode cX0_init 14 = .ok (.return_, 1) := by decide +kernel
theorem dX1_init_0 : decode cX1_init 0 = .ok (.aload_n 0, 1) := by decide +kernel
theorem dX1_init_1 : decode cX1_init 1 = .ok (.invokespecial 3, 3) := by decide +kernel
theorem dX1_init_4 : decode cX1_init 4 = .ok (.aload_n 0, 1) := by decide +kernel
theorem dX1_init_5 : decode cX1_init 5 = .ok (.bipush 60, 2) := by decide +kernel
theorem dX1_init_7 : decode cX1_init 7 = .ok (.newarray .int, 2) := by decide +kernel
theorem dX1_init_9 : decode cX1_init 9 = .ok (.putfield 9, 3) := by decide +kernel
theorem dX1_init_12 : decode cX1_init 12 = .ok (.aload_n 0, 1) := by decide +kernel
theorem dX1_init_13 : decode cX1_init 13 = .ok (.iconst 0, 1) := by decide +kernel
theorem dX1_init_14 : decode cX1_init 14 = .ok (.putfield 15, 3) := by decide +kernel
theorem dX1_init_17 : decode cX1_init 17 = .ok (.return_, 1) := by decide +kernel
theorem dX1_append_0 : decode cX1_append 0 = .ok (.aload_n 0, 1) := by decide +kernel
theorem dX1_append_1 : decode cX1_append 1 = .ok (.getfield 9, 3) := by decide +kernel
theorem dX1_append_4 : decode cX1_append 4 = .ok (.aload_n 0, 1) := by decide +kernel
theorem dX1_append_5 : decode cX1_append 5 = .ok (.getfield 15, 3) := by decide +kernel
theorem dX1_append_8 : decode cX1_append 8 = .ok (.iload_n 1, 1) := by decide +kernel
theorem dX1_append_9 : decode cX1_append 9 = .ok (.iastore, 1) := by decide +kernel
theorem dX1_append_10 : decode cX1_append 10 = .ok (.aload_n 0, 1) := by decide +kernel
theorem dX1_append_11 : decode cX1_append 11 = .ok (.dup, 1) := by decide +kernel
theorem dX1_append_12 : decode cX1_append 12 = .ok (.getfield 15, 3) := by decide +kernel
theorem dX1_append_15 : decode cX1_append 15 = .ok (.iconst 1, 1) := by decide +kernel
theorem dX1_append_16 : decode cX1_append 16 = .ok (.iadd, 1) := by decide +kernel
theorem dX1_append_17 : decode cX1_append 17 = .ok (.putfield 15, 3) := by decide +kernel
theorem dX1_append_20 : decode cX1_append 20 = .ok (.return_, 1) := by decide +kernel
theorem dX1_remove_0 : decode cX1_remove 0 = .ok (.aload_n 0, 1) := by decide +kernel
theorem dX1_remove_1 : decode cX1_remove 1 = .ok (.dup, 1) := by decide +kernel
theorem dX1_remove_2 : decode cX1_remove 2 = .ok (.getfield 15, 3) := by decide +kernel
theorem dX1_remove_5 : decode cX1_remove 5 = .ok (.iconst 1, 1) := by decide +kernel
theorem dX1_remove_6 : decode cX1_remove 6 = .ok (.isub, 1) := by decide +kernel
theorem dX1_remove_7 : decode cX1_remove 7 = .ok (.putfield 15, 3) := by decide +kernel
theorem dX1_remove_10 : decode cX1_remove 10 = .ok (.iload_n 1, 1) := by decide +kernel
theorem dX1_remove_11 : decode cX1_remove 11 = .ok (.istore_n 2, 1) := by decide +kernel
theorem dX1_remove_12 : decode cX1_remove 12 = .ok (.iload_n 2, 1) := by decide +kernel
theorem dX1_remove_13 : decode cX1_remove 13 = .ok (.aload_n 0, 1) := by decide +kernel
theorem dX1_remove_14 : decode cX1_remove 14 = .ok (.getfield 15, 3) := by decide +kernel
theorem dX1_remove_17 : decode cX1_remove 17 = .ok (.if_icmp .ge 23, 3) := by decide +kernel
theorem dX1_remove_20 : decode cX1_remove 20 = .ok (.aload_n 0, 1) := by decide +kernel
theorem dX1_remove_21 : decode cX1_remove 21 = .ok (.getfield 9, 3) := by decide +kernel
theorem dX1_remove_24 : decode cX1_remove 24 = .ok (.iload_n 2, 1) := by decide +kernel
theorem dX1_remove_25 : decode cX1_remove 25 = .ok (.aload_n 0, 1) := by decide +kernel
theorem dX1_remove_26 : decode cX1_remove 26 = .ok (.getfield 9, 3) := by decide +kernel
theorem dX1_remove_29 : decode cX1_remove 29 = .ok (.iload_n 2, 1) := by decide +kernel
theorem dX1_remove_30 : decode cX1_remove 30 = .ok (.iconst 1, 1) := by decide +kernel
theorem dX1_remove_31 : decode cX1_remove 31 = .ok (.iadd, 1) := by decide +kernel
theorem dX1_remove_32 : decode cX1_remove 32 = .ok (.iaload, 1) := by decide +kernel
theorem dX1_remove_33 : decode cX1_remove 33 = .ok (.iastore, 1) := by decide +kernel
theorem dX1_remove_34 : decode cX1_remove 34 = .ok (.iinc 2 1, 3) := by decide +kernel
theorem dX1_remove_37 : decode cX1_remove 37 = .ok (.goto (-25), 3) := by decide +kernel
theorem dX1_remove_40 : decode cX1_remove 40 = .ok (.return_, 1) := by decide +kernel
theorem dX1_placeOf_0 : decode cX1_placeOf 0 = .ok (.iconst 0, 1) := by decide +kernel
theorem dX1_placeOf_1 : decode cX1_placeOf 1 = .ok (.istore_n 2, 1) := by decide +kernel
theorem dX1_placeOf_2 : decode cX1_placeOf 2 = .ok (.iload_n 2, 1) := by decide +kernel
theorem dX1_placeOf_3 : decode cX1_placeOf 3 = .ok (.aload_n 0, 1) := by decide +kernel
theorem dX1_placeOf_4 : decode cX1_placeOf 4 = .ok (.getfield 15, 3) := by decide +kernel
theorem dX1_placeOf_7 : decode cX1_placeOf 7 = .ok (.if_icmp .ge 21, 3) := by decide +kernel
theorem dX1_placeOf_10 : decode cX1_placeOf 10 = .ok (.aload_n 0, 1) := by decide +kernel
theorem dX1_placeOf_11 : decode cX1_placeOf 11 = .ok (.getfield 9, 3) := by decide +kernel
theorem dX1_placeOf_14 : decode cX1_placeOf 14 = .ok (.iload_n 2, 1) := by decide +kernel
theorem dX1_placeOf_15 : decode cX1_placeOf 15 = .ok (.iaload, 1) := by decide +kernel
theorem dX1_placeOf_16 : decode cX1_placeOf 16 = .ok (.iload_n 1, 1) := by decide +kernel
theorem dX1_placeOf_17 : decode cX1_placeOf 17 = .ok (.if_icmp .ne 5, 3) := by decide +kernel
theorem dX1_placeOf_20 : decode cX1_placeOf 20 = .ok (.iload_n 2, 1) := by decide +kernel
theorem dX1_placeOf_21 : decode cX1_placeOf 21 = .ok (.ireturn, 1) := by decide +kernel
theorem dX1_placeOf_22 : decode cX1_placeOf 22 = .ok (.iinc 2 1, 3) := by decide +kernel
theorem dX1_placeOf_25 : decode cX1_placeOf 25 = .ok (.goto (-23), 3) := by decide +kernel
theorem dX1_placeOf_28 : decode cX1_placeOf 28 = .ok (.iconst (-1), 1) := by decide +kernel
theorem dX1_placeOf_29 : decode cX1_placeOf 29 = .ok (.ireturn, 1) := by decide +kernel
theorem dX1_exchange_0 : decode cX1_exchange 0 = .ok (.aload_n 0, 1) := by decide +kernel
theorem dX1_exchange_1 : decode cX1_exchange 1 = .ok (.getfield 9, 3) := by decide +kernel
theorem dX1_exchange_4 : decode cX1_exchange 4 = .ok (.iload_n 1, 1) := by decide +kernel
theorem dX1_exchange_5 : decode cX1_exchange 5 = .ok (.iaload, 1) := by decide +kernel
theorem dX1_exchange_6 : decode cX1_exchange 6 = .ok (.istore_n 3, 1) := by decide +kernel
theorem dX1_exchange_7 : decode cX1_exchange 7 = .ok (.aload_n 0, 1) := by decide +kernel
theorem dX1_exchange_8 : decode cX1_exchange 8 = .ok (.getfield 9, 3) := by decide +kernel
theorem dX1_exchange_11 : decode cX1_exchange 11 = .ok (.iload_n 1, 1) := by decide +kernel
theorem dX1_exchange_12 : decode cX1_exchange 12 = .ok (.aload_n 0, 1) := by decide +kernel
theorem dX1_exchange_13 : decode cX1_exchange 13 = .ok (.getfield 9, 3) := by decide +kernel
theorem dX1_exchange_16 : decode cX1_exchange 16 = .ok (.iload_n 2, 1) := by decide +kernel
theorem dX1_exchange_17 : decode cX1_exchange 17 = .ok (.iaload, 1) := by decide +kernel
theorem dX1_exchange_18 : decode cX1_exchange 18 = .ok (.iastore, 1) := by decide +kernel
theorem dX1_exchange_19 : decode cX1_exchange 19 = .ok (.aload_n 0, 1) := by decide +kernel
theorem dX1_exchange_20 : decode cX1_exchange 20 = .ok (.getfield 9, 3) := by decide +kernel
theorem dX1_exchange_23 : decode cX1_exchange 23 = .ok (.iload_n 2, 1) := by decide +kernel
theorem dX1_exchange_24 : decode cX1_exchange 24 = .ok (.iload_n 3, 1) := by decide +kernel
theorem dX1_exchange_25 : decode cX1_exchange 25 = .ok (.iastore, 1) := by decide +kernel
theorem dX1_exchange_26 : decode cX1_exchange 26 = .ok (.return_, 1) := by decide +kernel
theorem dX2_init_0 : decode cX2_init 0 = .ok (.aload_n 0, 1) := by decide +kernel
theorem dX2_init_1 : decode cX2_init 1 = .ok (.invokespecial 3, 3) := by decide +kernel
theorem dX2_init_4 : decode cX2_init 4 = .ok (.aload_n 0, 1) := by decide +kernel
theorem dX2_init_5 : decode cX2_init 5 = .ok (.iconst 0, 1) := by decide +kernel
theorem dX2_init_6 : decode cX2_init 6 = .ok (.putfield 9, 3) := by decide +kernel
theorem dX2_init_9 : decode cX2_init 9 = .ok (.aload_n 0, 1) := by decide +kernel
theorem dX2_init_10 : decode cX2_init 10 = .ok (.iconst (-1), 1) := by decide +kernel
theorem dX2_init_11 : decode cX2_init 11 = .ok (.putfield 15, 3) := by decide +kernel
theorem dX2_init_14 : decode cX2_init 14 = .ok (.aload_n 0, 1) := by decide +kernel
theorem dX2_init_15 : decode cX2_init 15 = .ok (.iconst 0, 1) := by decide +kernel
theorem dX2_init_16 : decode cX2_init 16 = .ok (.putfield 18, 3) := by decide +kernel
theorem dX2_init_19 : decode cX2_init 19 = .ok (.aload_n 0, 1) := by decide +kernel
theorem dX2_init_20 : decode cX2_init 20 = .ok (.bipush 8, 2) := by decide +kernel
theorem dX2_init_22 : decode cX2_init 22 = .ok (.newarray .int, 2) := by decide +kernel
theorem dX2_init_24 : decode cX2_init 24 = .ok (.putfield 21, 3) := by decide +kernel
theorem dX2_init_27 : decode cX2_init 27 = .ok (.return_, 1) := by decide +kernel
theorem dX2_none_0 : decode cX2_none 0 = .ok (.aload_n 0, 1) := by decide +kernel
theorem dX2_none_1 : decode cX2_none 1 = .ok (.iconst 0, 1) := by decide +kernel
theorem dX2_none_2 : decode cX2_none 2 = .ok (.putfield 9, 3) := by decide +kernel
theorem dX2_none_5 : decode cX2_none 5 = .ok (.aload_n 0, 1) := by decide +kernel
theorem dX2_none_6 : decode cX2_none 6 = .ok (.iconst (-1), 1) := by decide +kernel
theorem dX2_none_7 : decode cX2_none 7 = .ok (.putfield 15, 3) := by decide +kernel
theorem dX2_none_10 : decode cX2_none 10 = .ok (.aload_n 0, 1) := by decide +kernel
theorem dX2_none_11 : decode cX2_none 11 = .ok (.iconst 0, 1) := by decide +kernel
theorem dX2_none_12 : decode cX2_none 12 = .ok (.putfield 18, 3) := by decide +kernel
theorem dX2_none_15 : decode cX2_none 15 = .ok (.return_, 1) := by decide +kernel
theorem dX2_own_0 : decode cX2_own 0 = .ok (.aload_n 0, 1) := by decide +kernel
theorem dX2_own_1 : decode cX2_own 1 = .ok (.iload_n 1, 1) := by decide +kernel
theorem dX2_own_2 : decode cX2_own 2 = .ok (.putfield 18, 3) := by decide +kernel
theorem dX2_own_5 : decode cX2_own 5 = .ok (.aload_n 0, 1) := by decide +kernel
theorem dX2_own_6 : decode cX2_own 6 = .ok (.bipush 7, 2) := by decide +kernel
theorem dX2_own_8 : decode cX2_own 8 = .ok (.iload_n 2, 1) := by decide +kernel
theorem dX2_own_9 : decode cX2_own 9 = .ok (.invokevirtual 25, 3) := by decide +kernel
theorem dX2_own_12 : decode cX2_own 12 = .ok (.ireturn, 1) := by decide +kernel
theorem dX2_inNoPart_0 : decode cX2_inNoPart 0 = .ok (.aload_n 0, 1) := by decide +kernel
theorem dX2_inNoPart_1 : decode cX2_inNoPart 1 = .ok (.iload_n 1, 1) := by decide +kernel
theorem dX2_inNoPart_2 : decode cX2_inNoPart 2 = .ok (.iconst (-1), 1) := by decide +kernel
theorem dX2_inNoPart_3 : decode cX2_inNoPart 3 = .ok (.invokevirtual 25, 3) := by decide +kernel
theorem dX2_inNoPart_6 : decode cX2_inNoPart 6 = .ok (.ireturn, 1) := by decide +kernel
theorem dX2_inPart_0 : decode cX2_inPart 0 = .ok (.aload_n 0, 1) := by decide +kernel
theorem dX2_inPart_1 : decode cX2_inPart 1 = .ok (.iload_n 1, 1) := by decide +kernel
theorem dX2_inPart_2 : decode cX2_inPart 2 = .ok (.putfield 9, 3) := by decide +kernel
theorem dX2_inPart_5 : decode cX2_inPart 5 = .ok (.aload_n 0, 1) := by decide +kernel
theorem dX2_inPart_6 : decode cX2_inPart 6 = .ok (.iload_n 2, 1) := by decide +kernel
theorem dX2_inPart_7 : decode cX2_inPart 7 = .ok (.putfield 15, 3) := by decide +kernel
theorem dX2_inPart_10 : decode cX2_inPart 10 = .ok (.aload_n 0, 1) := by decide +kernel
theorem dX2_inPart_11 : decode cX2_inPart 11 = .ok (.getfield 21, 3) := by decide +kernel
theorem dX2_inPart_14 : decode cX2_inPart 14 = .ok (.iload_n 1, 1) := by decide +kernel
theorem dX2_inPart_15 : decode cX2_inPart 15 = .ok (.dup2, 1) := by decide +kernel
theorem dX2_inPart_16 : decode cX2_inPart 16 = .ok (.iaload, 1) := by decide +kernel
theorem dX2_inPart_17 : decode cX2_inPart 17 = .ok (.iconst 1, 1) := by decide +kernel
theorem dX2_inPart_18 : decode cX2_inPart 18 = .ok (.iadd, 1) := by decide +kernel
theorem dX2_inPart_19 : decode cX2_inPart 19 = .ok (.iastore, 1) := by decide +kernel
theorem dX2_inPart_20 : decode cX2_inPart 20 = .ok (.bipush (-4), 2) := by decide +kernel
theorem dX2_inPart_22 : decode cX2_inPart 22 = .ok (.ireturn, 1) := by decide +kernel
theorem dX2_everOf_0 : decode cX2_everOf 0 = .ok (.iload_n 1, 1) := by decide +kernel
theorem dX2_everOf_1 : decode cX2_everOf 1 = .ok (.iconst 1, 1) := by decide +kernel
theorem dX2_everOf_2 : decode cX2_everOf 2 = .ok (.if_icmp .lt 18, 3) := by decide +kernel
theorem dX2_everOf_5 : decode cX2_everOf 5 = .ok (.iload_n 1, 1) := by decide +kernel
theorem dX2_everOf_6 : decode cX2_everOf 6 = .ok (.bipush 7, 2) := by decide +kernel
theorem dX2_everOf_8 : decode cX2_everOf 8 = .ok (.if_icmp .gt 12, 3) := by decide +kernel
theorem dX2_everOf_11 : decode cX2_everOf 11 = .ok (.aload_n 0, 1) := by decide +kernel
theorem dX2_everOf_12 : decode cX2_everOf 12 = .ok (.getfield 21, 3) := by decide +kernel
theorem dX2_everOf_15 : decode cX2_everOf 15 = .ok (.iload_n 1, 1) := by decide +kernel
theorem dX2_everOf_16 : decode cX2_everOf 16 = .ok (.iaload, 1) := by decide +kernel
theorem dX2_everOf_17 : decode cX2_everOf 17 = .ok (.goto 5, 3) := by decide +kernel
theorem dX2_everOf_20 : decode cX2_everOf 20 = .ok (.bipush (-2), 2) := by decide +kernel
theorem dX2_everOf_22 : decode cX2_everOf 22 = .ok (.ireturn, 1) := by decide +kernel
theorem dX3_init_0 : decode cX3_init 0 = .ok (.aload_n 0, 1) := by decide +kernel
theorem dX3_init_1 : decode cX3_init 1 = .ok (.invokespecial 3, 3) := by decide +kernel
theorem dX3_init_4 : decode cX3_init 4 = .ok (.aload_n 0, 1) := by decide +kernel
theorem dX3_init_5 : decode cX3_init 5 = .ok (.iconst 4, 1) := by decide +kernel
theorem dX3_init_6 : decode cX3_init 6 = .ok (.newarray .int, 2) := by decide +kernel
theorem dX3_init_8 : decode cX3_init 8 = .ok (.putfield 11, 3) := by decide +kernel
theorem dX3_init_11 : decode cX3_init 11 = .ok (.aload_n 0, 1) := by decide +kernel
theorem dX3_init_12 : decode cX3_init 12 = .ok (.iconst 0, 1) := by decide +kernel
theorem dX3_init_13 : decode cX3_init 13 = .ok (.putfield 15, 3) := by decide +kernel
theorem dX3_init_16 : decode cX3_init 16 = .ok (.iconst 0, 1) := by decide +kernel
theorem dX3_init_17 : decode cX3_init 17 = .ok (.istore_n 2, 1) := by decide +kernel
theorem dX3_init_18 : decode cX3_init 18 = .ok (.iload_n 2, 1) := by decide +kernel
theorem dX3_init_19 : decode cX3_init 19 = .ok (.aload_n 1, 1) := by decide +kernel
theorem dX3_init_20 : decode cX3_init 20 = .ok (.arraylength, 1) := by decide +kernel
theorem dX3_init_21 : decode cX3_init 21 = .ok (.if_icmp .ge 46, 3) := by decide +kernel
theorem dX3_init_24 : decode cX3_init 24 = .ok (.aload_n 0, 1) := by decide +kernel
theorem dX3_init_25 : decode cX3_init 25 = .ok (.getfield 15, 3) := by decide +kernel
theorem dX3_init_28 : decode cX3_init 28 = .ok (.iconst 4, 1) := by decide +kernel
theorem dX3_init_29 : decode cX3_init 29 = .ok (.if_icmp .ge 38, 3) := by decide +kernel
theorem dX3_init_32 : decode cX3_init 32 = .ok (.aload_n 1, 1) := by decide +kernel
theorem dX3_init_33 : decode cX3_init 33 = .ok (.iload_n 2, 1) := by decide +kernel
theorem dX3_init_34 : decode cX3_init 34 = .ok (.iaload, 1) := by decide +kernel
theorem dX3_init_35 : decode cX3_init 35 = .ok (.iconst (-1), 1) := by decide +kernel
theorem dX3_init_36 : decode cX3_init 36 = .ok (.if_icmp .eq 25, 3) := by decide +kernel
theorem dX3_init_39 : decode cX3_init 39 = .ok (.aload_n 0, 1) := by decide +kernel
theorem dX3_init_40 : decode cX3_init 40 = .ok (.getfield 11, 3) := by decide +kernel
theorem dX3_init_43 : decode cX3_init 43 = .ok (.aload_n 0, 1) := by decide +kernel
theorem dX3_init_44 : decode cX3_init 44 = .ok (.getfield 15, 3) := by decide +kernel
theorem dX3_init_47 : decode cX3_init 47 = .ok (.aload_n 1, 1) := by decide +kernel
theorem dX3_init_48 : decode cX3_init 48 = .ok (.iload_n 2, 1) := by decide +kernel
theorem dX3_init_49 : decode cX3_init 49 = .ok (.iaload, 1) := by decide +kernel
theorem dX3_init_50 : decode cX3_init 50 = .ok (.iastore, 1) := by decide +kernel
theorem dX3_init_51 : decode cX3_init 51 = .ok (.aload_n 0, 1) := by decide +kernel
theorem dX3_init_52 : decode cX3_init 52 = .ok (.dup, 1) := by decide +kernel
theorem dX3_init_53 : decode cX3_init 53 = .ok (.getfield 15, 3) := by decide +kernel
theorem dX3_init_56 : decode cX3_init 56 = .ok (.iconst 1, 1) := by decide +kernel
theorem dX3_init_57 : decode cX3_init 57 = .ok (.iadd, 1) := by decide +kernel
theorem dX3_init_58 : decode cX3_init 58 = .ok (.putfield 15, 3) := by decide +kernel
theorem dX3_init_61 : decode cX3_init 61 = .ok (.iinc 2 1, 3) := by decide +kernel
theorem dX3_init_64 : decode cX3_init 64 = .ok (.goto (-46), 3) := by decide +kernel
theorem dX3_init_67 : decode cX3_init 67 = .ok (.return_, 1) := by decide +kernel
theorem dX3_tagOf_0 : decode cX3_tagOf 0 = .ok (.iconst (-1), 1) := by decide +kernel
theorem dX3_tagOf_1 : decode cX3_tagOf 1 = .ok (.istore_n 2, 1) := by decide +kernel
theorem dX3_tagOf_2 : decode cX3_tagOf 2 = .ok (.iconst 0, 1) := by decide +kernel
theorem dX3_tagOf_3 : decode cX3_tagOf 3 = .ok (.istore_n 3, 1) := by decide +kernel
theorem dX3_tagOf_4 : decode cX3_tagOf 4 = .ok (.iload_n 3, 1) := by decide +kernel
theorem dX3_tagOf_5 : decode cX3_tagOf 5 = .ok (.aload_n 0, 1) := by decide +kernel
theorem dX3_tagOf_6 : decode cX3_tagOf 6 = .ok (.getfield 15, 3) := by decide +kernel
theorem dX3_tagOf_9 : decode cX3_tagOf 9 = .ok (.if_icmp .ge 39, 3) := by decide +kernel
theorem dX3_tagOf_12 : decode cX3_tagOf 12 = .ok (.aload_n 0, 1) := by decide +kernel
theorem dX3_tagOf_13 : decode cX3_tagOf 13 = .ok (.getfield 11, 3) := by decide +kernel
theorem dX3_tagOf_16 : decode cX3_tagOf 16 = .ok (.iload_n 3, 1) := by decide +kernel
theorem dX3_tagOf_17 : decode cX3_tagOf 17 = .ok (.iaload, 1) := by decide +kernel
theorem dX3_tagOf_18 : decode cX3_tagOf 18 = .ok (.aload_n 1, 1) := by decide +kernel
theorem dX3_tagOf_19 : decode cX3_tagOf 19 = .ok (.getfield 19, 3) := by decide +kernel
theorem dX3_tagOf_22 : decode cX3_tagOf 22 = .ok (.if_icmp .ne 5, 3) := by decide +kernel
theorem dX3_tagOf_25 : decode cX3_tagOf 25 = .ok (.iload_n 3, 1) := by decide +kernel
theorem dX3_tagOf_26 : decode cX3_tagOf 26 = .ok (.ireturn, 1) := by decide +kernel
theorem dX3_tagOf_27 : decode cX3_tagOf 27 = .ok (.aload_n 1, 1) := by decide +kernel
theorem dX3_tagOf_28 : decode cX3_tagOf 28 = .ok (.aload_n 0, 1) := by decide +kernel
theorem dX3_tagOf_29 : decode cX3_tagOf 29 = .ok (.getfield 11, 3) := by decide +kernel
theorem dX3_tagOf_32 : decode cX3_tagOf 32 = .ok (.iload_n 3, 1) := by decide +kernel
theorem dX3_tagOf_33 : decode cX3_tagOf 33 = .ok (.iaload, 1) := by decide +kernel
theorem dX3_tagOf_34 : decode cX3_tagOf 34 = .ok (.invokevirtual 24, 3) := by decide +kernel
theorem dX3_tagOf_37 : decode cX3_tagOf 37 = .ok (.ifCond .eq 5, 3) := by decide +kernel
theorem dX3_tagOf_40 : decode cX3_tagOf 40 = .ok (.iload_n 3, 1) := by decide +kernel
theorem dX3_tagOf_41 : decode cX3_tagOf 41 = .ok (.istore_n 2, 1) := by decide +kernel
theorem dX3_tagOf_42 : decode cX3_tagOf 42 = .ok (.iinc 3 1, 3) := by decide +kernel
theorem dX3_tagOf_45 : decode cX3_tagOf 45 = .ok (.goto (-41), 3) := by decide +kernel
theorem dX3_tagOf_48 : decode cX3_tagOf 48 = .ok (.iload_n 2, 1) := by decide +kernel
theorem dX3_tagOf_49 : decode cX3_tagOf 49 = .ok (.ireturn, 1) := by decide +kernel
theorem dX4_init_0 : decode cX4_init 0 = .ok (.aload_n 0, 1) := by decide +kernel
theorem dX4_init_1 : decode cX4_init 1 = .ok (.invokespecial 3, 3) := by decide +kernel
theorem dX4_init_4 : decode cX4_init 4 = .ok (.aload_n 0, 1) := by decide +kernel
theorem dX4_init_5 : decode cX4_init 5 = .ok (.iconst 0, 1) := by decide +kernel
theorem dX4_init_6 : decode cX4_init 6 = .ok (.putfield 9, 3) := by decide +kernel
theorem dX4_init_9 : decode cX4_init 9 = .ok (.aload_n 0, 1) := by decide +kernel
theorem dX4_init_10 : decode cX4_init 10 = .ok (.iconst (-1), 1) := by decide +kernel
theorem dX4_init_11 : decode cX4_init 11 = .ok (.putfield 15, 3) := by decide +kernel
theorem dX4_init_14 : decode cX4_init 14 = .ok (.aload_n 0, 1) := by decide +kernel
theorem dX4_init_15 : decode cX4_init 15 = .ok (.iconst 0, 1) := by decide +kernel
theorem dX4_init_16 : decode cX4_init 16 = .ok (.putfield 19, 3) := by decide +kernel
theorem dX4_init_19 : decode cX4_init 19 = .ok (.aload_n 0, 1) := by decide +kernel
theorem dX4_init_20 : decode cX4_init 20 = .ok (.iconst 0, 1) := by decide +kernel
theorem dX4_init_21 : decode cX4_init 21 = .ok (.putfield 22, 3) := by decide +kernel
theorem dX4_init_24 : decode cX4_init 24 = .ok (.aload_n 0, 1) := by decide +kernel
theorem dX4_init_25 : decode cX4_init 25 = .ok (.iload_n 1, 1) := by decide +kernel
theorem dX4_init_26 : decode cX4_init 26 = .ok (.putfield 25, 3) := by decide +kernel
theorem dX4_init_29 : decode cX4_init 29 = .ok (.aload_n 0, 1) := by decide +kernel
theorem dX4_init_30 : decode cX4_init 30 = .ok (.aload_n 2, 1) := by decide +kernel
theorem dX4_init_31 : decode cX4_init 31 = .ok (.putfield 28, 3) := by decide +kernel
theorem dX4_init_34 : decode cX4_init 34 = .ok (.aload_n 0, 1) := by decide +kernel
theorem dX4_init_35 : decode cX4_init 35 = .ok (.lload_n 3, 1) := by decide +kernel
theorem dX4_init_36 : decode cX4_init 36 = .ok (.putfield 32, 3) := by decide +kernel
theorem dX4_init_39 : decode cX4_init 39 = .ok (.return_, 1) := by decide +kernel
theorem dX4_isOf_0 : decode cX4_isOf 0 = .ok (.aload_n 0, 1) := by decide +kernel
theorem dX4_isOf_1 : decode cX4_isOf 1 = .ok (.getfield 25, 3) := by decide +kernel
theorem dX4_isOf_4 : decode cX4_isOf 4 = .ok (.iload_n 1, 1) := by decide +kernel
theorem dX4_isOf_5 : decode cX4_isOf 5 = .ok (.if_icmp .eq 16, 3) := by decide +kernel
theorem dX4_isOf_8 : decode cX4_isOf 8 = .ok (.aload_n 0, 1) := by decide +kernel
theorem dX4_isOf_9 : decode cX4_isOf 9 = .ok (.getfield 25, 3) := by decide +kernel
theorem dX4_isOf_12 : decode cX4_isOf 12 = .ok (.iconst 2, 1) := by decide +kernel
theorem dX4_isOf_13 : decode cX4_isOf 13 = .ok (.if_icmp .ne 12, 3) := by decide +kernel
theorem dX4_isOf_16 : decode cX4_isOf 16 = .ok (.iload_n 1, 1) := by decide +kernel
theorem dX4_isOf_17 : decode cX4_isOf 17 = .ok (.iconst 1, 1) := by decide +kernel
theorem dX4_isOf_18 : decode cX4_isOf 18 = .ok (.if_icmp .ne 7, 3) := by decide +kernel
theorem dX4_isOf_21 : decode cX4_isOf 21 = .ok (.iconst 1, 1) := by decide +kernel
theorem dX4_isOf_22 : decode cX4_isOf 22 = .ok (.goto 4, 3) := by decide +kernel
theorem dX4_isOf_25 : decode cX4_isOf 25 = .ok (.iconst 0, 1) := by decide +kernel
theorem dX4_isOf_26 : decode cX4_isOf 26 = .ok (.ireturn, 1) := by decide +kernel
theorem dX4_isLike_0 : decode cX4_isLike 0 = .ok (.aload_n 0, 1) := by decide +kernel
theorem dX4_isLike_1 : decode cX4_isLike 1 = .ok (.getfield 22, 3) := by decide +kernel
theorem dX4_isLike_4 : decode cX4_isLike 4 = .ok (.aload_n 1, 1) := by decide +kernel
theorem dX4_isLike_5 : decode cX4_isLike 5 = .ok (.getfield 22, 3) := by decide +kernel
theorem dX4_isLike_8 : decode cX4_isLike 8 = .ok (.if_icmp .ne 7, 3) := by decide +kernel
theorem dX4_isLike_11 : decode cX4_isLike 11 = .ok (.iconst 1, 1) := by decide +kernel
theorem dX4_isLike_12 : decode cX4_isLike 12 = .ok (.goto 4, 3) := by decide +kernel
theorem dX4_isLike_15 : decode cX4_isLike 15 = .ok (.iconst 0, 1) := by decide +kernel
theorem dX4_isLike_16 : decode cX4_isLike 16 = .ok (.ireturn, 1) := by decide +kernel
theorem dX4_hasPlace_0 : decode cX4_hasPlace 0 = .ok (.iload_n 1, 1) := by decide +kernel
theorem dX4_hasPlace_1 : decode cX4_hasPlace 1 = .ok (.ifCond .lt 18, 3) := by decide +kernel
theorem dX4_hasPlace_4 : decode cX4_hasPlace 4 = .ok (.iload_n 1, 1) := by decide +kernel
theorem dX4_hasPlace_5 : decode cX4_hasPlace 5 = .ok (.aload_n 0, 1) := by decide +kernel
theorem dX4_hasPlace_6 : decode cX4_hasPlace 6 = .ok (.getfield 28, 3) := by decide +kernel
theorem dX4_hasPlace_9 : decode cX4_hasPlace 9 = .ok (.arraylength, 1) := by decide +kernel
theorem dX4_hasPlace_10 : decode cX4_hasPlace 10 = .ok (.iconst 1, 1) := by decide +kernel
theorem dX4_hasPlace_11 : decode cX4_hasPlace 11 = .ok (.isub, 1) := by decide +kernel
theorem dX4_hasPlace_12 : decode cX4_hasPlace 12 = .ok (.if_icmp .ge 7, 3) := by decide +kernel
theorem dX4_hasPlace_15 : decode cX4_hasPlace 15 = .ok (.iconst 1, 1) := by decide +kernel
theorem dX4_hasPlace_16 : decode cX4_hasPlace 16 = .ok (.goto 4, 3) := by decide +kernel
theorem dX4_hasPlace_19 : decode cX4_hasPlace 19 = .ok (.iconst 0, 1) := by decide +kernel
theorem dX4_hasPlace_20 : decode cX4_hasPlace 20 = .ok (.ireturn, 1) := by decide +kernel
theorem dX4_hold_0 : decode cX4_hold 0 = .ok (.aload_n 0, 1) := by decide +kernel
theorem dX4_hold_1 : decode cX4_hold 1 = .ok (.getfield 28, 3) := by decide +kernel
theorem dX4_hold_4 : decode cX4_hold 4 = .ok (.iconst 1, 1) := by decide +kernel
theorem dX4_hold_5 : decode cX4_hold 5 = .ok (.iload_n 1, 1) := by decide +kernel
theorem dX4_hold_6 : decode cX4_hold 6 = .ok (.iadd, 1) := by decide +kernel
theorem dX4_hold_7 : decode cX4_hold 7 = .ok (.laload, 1) := by decide +kernel
theorem dX4_hold_8 : decode cX4_hold 8 = .ok (.ldc2_w 36, 3) := by decide +kernel
theorem dX4_hold_11 : decode cX4_hold 11 = .ok (.lcmp, 1) := by decide +kernel
theorem dX4_hold_12 : decode cX4_hold 12 = .ok (.ifCond .eq 13, 3) := by decide +kernel
theorem dX4_hold_15 : decode cX4_hold 15 = .ok (.aload_n 0, 1) := by decide +kernel
theorem dX4_hold_16 : decode cX4_hold 16 = .ok (.dup, 1) := by decide +kernel
theorem dX4_hold_17 : decode cX4_hold 17 = .ok (.getfield 32, 3) := by decide +kernel
theorem dX4_hold_20 : decode cX4_hold 20 = .ok (.lconst 1, 1) := by decide +kernel
theorem dX4_hold_21 : decode cX4_hold 21 = .ok (.lsub, 1) := by decide +kernel
theorem dX4_hold_22 : decode cX4_hold 22 = .ok (.putfield 32, 3) := by decide +kernel
theorem dX4_hold_25 : decode cX4_hold 25 = .ok (.iload_n 2, 1) := by decide +kernel
theorem dX4_hold_26 : decode cX4_hold 26 = .ok (.iconst (-1), 1) := by decide +kernel
theorem dX4_hold_27 : decode cX4_hold 27 = .ok (.if_icmp .eq 13, 3) := by decide +kernel
theorem dX4_hold_30 : decode cX4_hold 30 = .ok (.aload_n 0, 1) := by decide +kernel
theorem dX4_hold_31 : decode cX4_hold 31 = .ok (.dup, 1) := by decide +kernel
theorem dX4_hold_32 : decode cX4_hold 32 = .ok (.getfield 32, 3) := by decide +kernel
theorem dX4_hold_35 : decode cX4_hold 35 = .ok (.lconst 1, 1) := by decide +kernel
theorem dX4_hold_36 : decode cX4_hold 36 = .ok (.ladd, 1) := by decide +kernel
theorem dX4_hold_37 : decode cX4_hold 37 = .ok (.putfield 32, 3) := by decide +kernel
theorem dX4_hold_40 : decode cX4_hold 40 = .ok (.aload_n 0, 1) := by decide +kernel
theorem dX4_hold_41 : decode cX4_hold 41 = .ok (.getfield 28, 3) := by decide +kernel
theorem dX4_hold_44 : decode cX4_hold 44 = .ok (.iconst 1, 1) := by decide +kernel
theorem dX4_hold_45 : decode cX4_hold 45 = .ok (.iload_n 1, 1) := by decide +kernel
theorem dX4_hold_46 : decode cX4_hold 46 = .ok (.iadd, 1) := by decide +kernel
theorem dX4_hold_47 : decode cX4_hold 47 = .ok (.iload_n 2, 1) := by decide +kernel
theorem dX4_hold_48 : decode cX4_hold 48 = .ok (.i2l, 1) := by decide +kernel
theorem dX4_hold_49 : decode cX4_hold 49 = .ok (.lastore, 1) := by decide +kernel
theorem dX4_hold_50 : decode cX4_hold 50 = .ok (.return_, 1) := by decide +kernel
theorem dX4_heavyWeight_0 : decode cX4_heavyWeight 0 = .ok (.aload_n 0, 1) := by decide +kernel
theorem dX4_heavyWeight_1 : decode cX4_heavyWeight 1 = .ok (.getfield 25, 3) := by decide +kernel
theorem dX4_heavyWeight_4 : decode cX4_heavyWeight 4 = .ok (.iconst 4, 1) := by decide +kernel
theorem dX4_heavyWeight_5 : decode cX4_heavyWeight 5 = .ok (.if_icmp .ne 8, 3) := by decide +kernel
theorem dX4_heavyWeight_8 : decode cX4_heavyWeight 8 = .ok (.aload_n 0, 1) := by decide +kernel
theorem dX4_heavyWeight_9 : decode cX4_heavyWeight 9 = .ok (.getfield 32, 3) := by decide +kernel
theorem dX4_heavyWeight_12 : decode cX4_heavyWeight 12 = .ok (.lreturn, 1) := by decide +kernel
theorem dX4_heavyWeight_13 : decode cX4_heavyWeight 13 = .ok (.ldc2_w 38, 3) := by decide +kernel
theorem dX4_heavyWeight_16 : decode cX4_heavyWeight 16 = .ok (.aload_n 0, 1) := by decide +kernel
theorem dX4_heavyWeight_17 : decode cX4_heavyWeight 17 = .ok (.getfield 32, 3) := by decide +kernel
theorem dX4_heavyWeight_20 : decode cX4_heavyWeight 20 = .ok (.lmul, 1) := by decide +kernel
theorem dX4_heavyWeight_21 : decode cX4_heavyWeight 21 = .ok (.lconst 1, 1) := by decide +kernel
theorem dX4_heavyWeight_22 : decode cX4_heavyWeight 22 = .ok (.ladd, 1) := by decide +kernel
theorem dX4_heavyWeight_23 : decode cX4_heavyWeight 23 = .ok (.lstore_n 1, 1) := by decide +kernel
theorem dX4_heavyWeight_24 : decode cX4_heavyWeight 24 = .ok (.aload_n 0, 1) := by decide +kernel
theorem dX4_heavyWeight_25 : decode cX4_heavyWeight 25 = .ok (.iconst 1, 1) := by decide +kernel
theorem dX4_heavyWeight_26 : decode cX4_heavyWeight 26 = .ok (.invokevirtual 40, 3) := by decide +kernel
theorem dX4_heavyWeight_29 : decode cX4_heavyWeight 29 = .ok (.ifCond .eq 11, 3) := by decide +kernel
theorem dX4_heavyWeight_32 : decode cX4_heavyWeight 32 = .ok (.ldc2_w 44, 3) := by decide +kernel
theorem dX4_heavyWeight_35 : decode cX4_heavyWeight 35 = .ok (.lload_n 1, 1) := by decide +kernel
theorem dX4_heavyWeight_36 : decode cX4_heavyWeight 36 = .ok (.lmul, 1) := by decide +kernel
theorem dX4_heavyWeight_37 : decode cX4_heavyWeight 37 = .ok (.goto 4, 3) := by decide +kernel
theorem dX4_heavyWeight_40 : decode cX4_heavyWeight 40 = .ok (.lload_n 1, 1) := by decide +kernel
theorem dX4_heavyWeight_41 : decode cX4_heavyWeight 41 = .ok (.lreturn, 1) := by decide +kernel
theorem dX5_init_0 : decode cX5_init 0 = .ok (.aload_n 0, 1) := by decide +kernel
theorem dX5_init_1 : decode cX5_init 1 = .ok (.invokespecial 3, 3) := by decide +kernel
theorem dX5_init_4 : decode cX5_init 4 = .ok (.aload_n 0, 1) := by decide +kernel
theorem dX5_init_5 : decode cX5_init 5 = .ok (.bipush 60, 2) := by decide +kernel
theorem dX5_init_7 : decode cX5_init 7 = .ok (.anewarray 11, 3) := by decide +kernel
theorem dX5_init_10 : decode cX5_init 10 = .ok (.putfield 13, 3) := by decide +kernel
theorem dX5_init_13 : decode cX5_init 13 = .ok (.aload_n 0, 1) := by decide +kernel
theorem dX5_init_14 : decode cX5_init 14 = .ok (.bipush 60, 2) := by decide +kernel
theorem dX5_init_16 : decode cX5_init 16 = .ok (.anewarray 11, 3) := by decide +kernel
theorem dX5_init_19 : decode cX5_init 19 = .ok (.putfield 17, 3) := by decide +kernel
theorem dX5_init_22 : decode cX5_init 22 = .ok (.aload_n 0, 1) := by decide +kernel
theorem dX5_init_23 : decode cX5_init 23 = .ok (.iconst 0, 1) := by decide +kernel
theorem dX5_init_24 : decode cX5_init 24 = .ok (.putfield 20, 3) := by decide +kernel
theorem dX5_init_27 : decode cX5_init 27 = .ok (.return_, 1) := by decide +kernel
theorem dX5_isFull_0 : decode cX5_isFull 0 = .ok (.aload_n 0, 1) := by decide +kernel
theorem dX5_isFull_1 : decode cX5_isFull 1 = .ok (.getfield 20, 3) := by decide +kernel
theorem dX5_isFull_4 : decode cX5_isFull 4 = .ok (.bipush 60, 2) := by decide +kernel
theorem dX5_isFull_6 : decode cX5_isFull 6 = .ok (.if_icmp .lt 7, 3) := by decide +kernel
theorem dX5_isFull_9 : decode cX5_isFull 9 = .ok (.iconst 1, 1) := by decide +kernel
theorem dX5_isFull_10 : decode cX5_isFull 10 = .ok (.goto 4, 3) := by decide +kernel
theorem dX5_isFull_13 : decode cX5_isFull 13 = .ok (.iconst 0, 1) := by decide +kernel
theorem dX5_isFull_14 : decode cX5_isFull 14 = .ok (.ireturn, 1) := by decide +kernel
theorem dX5_find_0 : decode cX5_find 0 = .ok (.lload_n 1, 1) := by decide +kernel
theorem dX5_find_1 : decode cX5_find 1 = .ok (.lconst 0, 1) := by decide +kernel
theorem dX5_find_2 : decode cX5_find 2 = .ok (.lcmp, 1) := by decide +kernel
theorem dX5_find_3 : decode cX5_find 3 = .ok (.ifCond .lt 23, 3) := by decide +kernel
theorem dX5_find_6 : decode cX5_find 6 = .ok (.lload_n 1, 1) := by decide +kernel
theorem dX5_find_7 : decode cX5_find 7 = .ok (.aload_n 0, 1) := by decide +kernel
theorem dX5_find_8 : decode cX5_find 8 = .ok (.getfield 20, 3) := by decide +kernel
theorem dX5_find_11 : decode cX5_find 11 = .ok (.i2l, 1) := by decide +kernel
theorem dX5_find_12 : decode cX5_find 12 = .ok (.lcmp, 1) := by decide +kernel
theorem dX5_find_13 : decode cX5_find 13 = .ok (.ifCond .ge 13, 3) := by decide +kernel
theorem dX5_find_16 : decode cX5_find 16 = .ok (.aload_n 0, 1) := by decide +kernel
theorem dX5_find_17 : decode cX5_find 17 = .ok (.getfield 13, 3) := by decide +kernel
theorem dX5_find_20 : decode cX5_find 20 = .ok (.lload_n 1, 1) := by decide +kernel
theorem dX5_find_21 : decode cX5_find 21 = .ok (.l2i, 1) := by decide +kernel
theorem dX5_find_22 : decode cX5_find 22 = .ok (.aaload, 1) := by decide +kernel
theorem dX5_find_23 : decode cX5_find 23 = .ok (.goto 4, 3) := by decide +kernel
theorem dX5_find_26 : decode cX5_find 26 = .ok (.aconst_null, 1) := by decide +kernel
theorem dX5_find_27 : decode cX5_find 27 = .ok (.areturn, 1) := by decide +kernel
theorem dX5_hasOrNone_0 : decode cX5_hasOrNone 0 = .ok (.iload_n 1, 1) := by decide +kernel
theorem dX5_hasOrNone_1 : decode cX5_hasOrNone 1 = .ok (.iconst (-1), 1) := by decide +kernel
theorem dX5_hasOrNone_2 : decode cX5_hasOrNone 2 = .ok (.if_icmp .eq 12, 3) := by decide +kernel
theorem dX5_hasOrNone_5 : decode cX5_hasOrNone 5 = .ok (.aload_n 0, 1) := by decide +kernel
theorem dX5_hasOrNone_6 : decode cX5_hasOrNone 6 = .ok (.iload_n 1, 1) := by decide +kernel
theorem dX5_hasOrNone_7 : decode cX5_hasOrNone 7 = .ok (.i2l, 1) := by decide +kernel
theorem dX5_hasOrNone_8 : decode cX5_hasOrNone 8 = .ok (.invokevirtual 24, 3) := by decide +kernel
theorem dX5_hasOrNone_11 : decode cX5_hasOrNone 11 = .ok (.ifnull 7, 3) := by decide +kernel
theorem dX5_hasOrNone_14 : decode cX5_hasOrNone 14 = .ok (.iconst 1, 1) := by decide +kernel
theorem dX5_hasOrNone_15 : decode cX5_hasOrNone 15 = .ok (.goto 4, 3) := by decide +kernel
theorem dX5_hasOrNone_18 : decode cX5_hasOrNone 18 = .ok (.iconst 0, 1) := by decide +kernel
theorem dX5_hasOrNone_19 : decode cX5_hasOrNone 19 = .ok (.ireturn, 1) := by decide +kernel
theorem dX5_add_0 : decode cX5_add 0 = .ok (.aload_n 1, 1) := by decide +kernel
theorem dX5_add_1 : decode cX5_add 1 = .ok (.aload_n 0, 1) := by decide +kernel
theorem dX5_add_2 : decode cX5_add 2 = .ok (.getfield 20, 3) := by decide +kernel
theorem dX5_add_5 : decode cX5_add 5 = .ok (.putfield 28, 3) := by decide +kernel
theorem dX5_add_8 : decode cX5_add 8 = .ok (.aload_n 1, 1) := by decide +kernel
theorem dX5_add_9 : decode cX5_add 9 = .ok (.aload_n 0, 1) := by decide +kernel
theorem dX5_add_10 : decode cX5_add 10 = .ok (.aload_n 1, 1) := by decide +kernel
theorem dX5_add_11 : decode cX5_add 11 = .ok (.invokevirtual 31, 3) := by decide +kernel
theorem dX5_add_14 : decode cX5_add 14 = .ok (.putfield 35, 3) := by decide +kernel
theorem dX5_add_17 : decode cX5_add 17 = .ok (.aload_n 0, 1) := by decide +kernel
theorem dX5_add_18 : decode cX5_add 18 = .ok (.aload_n 1, 1) := by decide +kernel
theorem dX5_add_19 : decode cX5_add 19 = .ok (.invokevirtual 38, 3) := by decide +kernel
theorem dX5_add_22 : decode cX5_add 22 = .ok (.aload_n 0, 1) := by decide +kernel
theorem dX5_add_23 : decode cX5_add 23 = .ok (.getfield 13, 3) := by decide +kernel
theorem dX5_add_26 : decode cX5_add 26 = .ok (.aload_n 0, 1) := by decide +kernel
theorem dX5_add_27 : decode cX5_add 27 = .ok (.getfield 20, 3) := by decide +kernel
theorem dX5_add_30 : decode cX5_add 30 = .ok (.aload_n 1, 1) := by decide +kernel
theorem dX5_add_31 : decode cX5_add 31 = .ok (.aastore, 1) := by decide +kernel
theorem dX5_add_32 : decode cX5_add 32 = .ok (.aload_n 0, 1) := by decide +kernel
theorem dX5_add_33 : decode cX5_add 33 = .ok (.dup, 1) := by decide +kernel
theorem dX5_add_34 : decode cX5_add 34 = .ok (.getfield 20, 3) := by decide +kernel
theorem dX5_add_37 : decode cX5_add 37 = .ok (.iconst 1, 1) := by decide +kernel
theorem dX5_add_38 : decode cX5_add 38 = .ok (.iadd, 1) := by decide +kernel
theorem dX5_add_39 : decode cX5_add 39 = .ok (.putfield 20, 3) := by decide +kernel
theorem dX5_add_42 : decode cX5_add 42 = .ok (.aload_n 1, 1) := by decide +kernel
theorem dX5_add_43 : decode cX5_add 43 = .ok (.getfield 28, 3) := by decide +kernel
theorem dX5_add_46 : decode cX5_add 46 = .ok (.ireturn, 1) := by decide +kernel
theorem dX5_weighPairs_0 : decode cX5_weighPairs 0 = .ok (.iconst 0, 1) := by decide +kernel
theorem dX5_weighPairs_1 : decode cX5_weighPairs 1 = .ok (.istore_n 1, 1) := by decide +kernel
theorem dX5_weighPairs_2 : decode cX5_weighPairs 2 = .ok (.iload_n 1, 1) := by decide +kernel
theorem dX5_weighPairs_3 : decode cX5_weighPairs 3 = .ok (.aload_n 0, 1) := by decide +kernel
theorem dX5_weighPairs_4 : decode cX5_weighPairs 4 = .ok (.getfield 20, 3) := by decide +kernel
theorem dX5_weighPairs_7 : decode cX5_weighPairs 7 = .ok (.if_icmp .ge 78, 3) := by decide +kernel
theorem dX5_weighPairs_10 : decode cX5_weighPairs 10 = .ok (.aload_n 0, 1) := by decide +kernel
theorem dX5_weighPairs_11 : decode cX5_weighPairs 11 = .ok (.getfield 13, 3) := by decide +kernel
theorem dX5_weighPairs_14 : decode cX5_weighPairs 14 = .ok (.iload_n 1, 1) := by decide +kernel
theorem dX5_weighPairs_15 : decode cX5_weighPairs 15 = .ok (.aaload, 1) := by decide +kernel
theorem dX5_weighPairs_16 : decode cX5_weighPairs 16 = .ok (.astore_n 2, 1) := by decide +kernel
theorem dX5_weighPairs_17 : decode cX5_weighPairs 17 = .ok (.aload_n 2, 1) := by decide +kernel
theorem dX5_weighPairs_18 : decode cX5_weighPairs 18 = .ok (.getfield 42, 3) := by decide +kernel
theorem dX5_weighPairs_21 : decode cX5_weighPairs 21 = .ok (.iconst 4, 1) := by decide +kernel
theorem dX5_weighPairs_22 : decode cX5_weighPairs 22 = .ok (.if_icmp .ne 57, 3) := by decide +kernel
theorem dX5_weighPairs_25 : decode cX5_weighPairs 25 = .ok (.aload_n 0, 1) := by decide +kernel
theorem dX5_weighPairs_26 : decode cX5_weighPairs 26 = .ok (.aload_n 2, 1) := by decide +kernel
theorem dX5_weighPairs_27 : decode cX5_weighPairs 27 = .ok (.getfield 45, 3) := by decide +kernel
theorem dX5_weighPairs_30 : decode cX5_weighPairs 30 = .ok (.iconst 0, 1) := by decide +kernel
theorem dX5_weighPairs_31 : decode cX5_weighPairs 31 = .ok (.laload, 1) := by decide +kernel
theorem dX5_weighPairs_32 : decode cX5_weighPairs 32 = .ok (.invokevirtual 24, 3) := by decide +kernel
theorem dX5_weighPairs_35 : decode cX5_weighPairs 35 = .ok (.astore_n 3, 1) := by decide +kernel
theorem dX5_weighPairs_36 : decode cX5_weighPairs 36 = .ok (.aload_n 0, 1) := by decide +kernel
theorem dX5_weighPairs_37 : decode cX5_weighPairs 37 = .ok (.aload_n 2, 1) := by decide +kernel
theorem dX5_weighPairs_38 : decode cX5_weighPairs 38 = .ok (.getfield 45, 3) := by decide +kernel
theorem dX5_weighPairs_41 : decode cX5_weighPairs 41 = .ok (.iconst 1, 1) := by decide +kernel
theorem dX5_weighPairs_42 : decode cX5_weighPairs 42 = .ok (.laload, 1) := by decide +kernel
theorem dX5_weighPairs_43 : decode cX5_weighPairs 43 = .ok (.invokevirtual 24, 3) := by decide +kernel
theorem dX5_weighPairs_46 : decode cX5_weighPairs 46 = .ok (.astore 4, 2) := by decide +kernel
theorem dX5_weighPairs_48 : decode cX5_weighPairs 48 = .ok (.aload_n 2, 1) := by decide +kernel
theorem dX5_weighPairs_49 : decode cX5_weighPairs 49 = .ok (.aload_n 3, 1) := by decide +kernel
theorem dX5_weighPairs_50 : decode cX5_weighPairs 50 = .ok (.ifnonnull 7, 3) := by decide +kernel
theorem dX5_weighPairs_53 : decode cX5_weighPairs 53 = .ok (.lconst 0, 1) := by decide +kernel
theorem dX5_weighPairs_54 : decode cX5_weighPairs 54 = .ok (.goto 7, 3) := by decide +kernel
theorem dX5_weighPairs_57 : decode cX5_weighPairs 57 = .ok (.aload_n 3, 1) := by decide +kernel
theorem dX5_weighPairs_58 : decode cX5_weighPairs 58 = .ok (.invokevirtual 49, 3) := by decide +kernel
theorem dX5_weighPairs_61 : decode cX5_weighPairs 61 = .ok (.aload 4, 2) := by decide +kernel
theorem dX5_weighPairs_63 : decode cX5_weighPairs 63 = .ok (.ifnonnull 7, 3) := by decide +kernel
theorem dX5_weighPairs_66 : decode cX5_weighPairs 66 = .ok (.lconst 0, 1) := by decide +kernel
theorem dX5_weighPairs_67 : decode cX5_weighPairs 67 = .ok (.goto 8, 3) := by decide +kernel
theorem dX5_weighPairs_70 : decode cX5_weighPairs 70 = .ok (.aload 4, 2) := by decide +kernel
theorem dX5_weighPairs_72 : decode cX5_weighPairs 72 = .ok (.getfield 53, 3) := by decide +kernel
theorem dX5_weighPairs_75 : decode cX5_weighPairs 75 = .ok (.ladd, 1) := by decide +kernel
theorem dX5_weighPairs_76 : decode cX5_weighPairs 76 = .ok (.putfield 53, 3) := by decide +kernel
theorem dX5_weighPairs_79 : decode cX5_weighPairs 79 = .ok (.iinc 1 1, 3) := by decide +kernel
theorem dX5_weighPairs_82 : decode cX5_weighPairs 82 = .ok (.goto (-80), 3) := by decide +kernel
theorem dX5_weighPairs_85 : decode cX5_weighPairs 85 = .ok (.return_, 1) := by decide +kernel
theorem dX5_numberRanked_0 : decode cX5_numberRanked 0 = .ok (.iload_n 1, 1) := by decide +kernel
theorem dX5_numberRanked_1 : decode cX5_numberRanked 1 = .ok (.ifCond .lt 23, 3) := by decide +kernel
theorem dX5_numberRanked_4 : decode cX5_numberRanked 4 = .ok (.iload_n 1, 1) := by decide +kernel
theorem dX5_numberRanked_5 : decode cX5_numberRanked 5 = .ok (.aload_n 0, 1) := by decide +kernel
theorem dX5_numberRanked_6 : decode cX5_numberRanked 6 = .ok (.getfield 20, 3) := by decide +kernel
theorem dX5_numberRanked_9 : decode cX5_numberRanked 9 = .ok (.if_icmp .ge 15, 3) := by decide +kernel
theorem dX5_numberRanked_12 : decode cX5_numberRanked 12 = .ok (.aload_n 0, 1) := by decide +kernel
theorem dX5_numberRanked_13 : decode cX5_numberRanked 13 = .ok (.getfield 17, 3) := by decide +kernel
theorem dX5_numberRanked_16 : decode cX5_numberRanked 16 = .ok (.iload_n 1, 1) := by decide +kernel
theorem dX5_numberRanked_17 : decode cX5_numberRanked 17 = .ok (.aaload, 1) := by decide +kernel
theorem dX5_numberRanked_18 : decode cX5_numberRanked 18 = .ok (.getfield 28, 3) := by decide +kernel
theorem dX5_numberRanked_21 : decode cX5_numberRanked 21 = .ok (.goto 4, 3) := by decide +kernel
theorem dX5_numberRanked_24 : decode cX5_numberRanked 24 = .ok (.iconst (-1), 1) := by decide +kernel
theorem dX5_numberRanked_25 : decode cX5_numberRanked 25 = .ok (.ireturn, 1) := by decide +kernel
theorem dX5_firstLike_0 : decode cX5_firstLike 0 = .ok (.iconst 0, 1) := by decide +kernel
theorem dX5_firstLike_1 : decode cX5_firstLike 1 = .ok (.istore_n 2, 1) := by decide +kernel
theorem dX5_firstLike_2 : decode cX5_firstLike 2 = .ok (.iload_n 2, 1) := by decide +kernel
theorem dX5_firstLike_3 : decode cX5_firstLike 3 = .ok (.aload_n 1, 1) := by decide +kernel
theorem dX5_firstLike_4 : decode cX5_firstLike 4 = .ok (.getfield 28, 3) := by decide +kernel
theorem dX5_firstLike_7 : decode cX5_firstLike 7 = .ok (.if_icmp .ge 24, 3) := by decide +kernel
theorem dX5_firstLike_10 : decode cX5_firstLike 10 = .ok (.aload_n 0, 1) := by decide +kernel
theorem dX5_firstLike_11 : decode cX5_firstLike 11 = .ok (.getfield 13, 3) := by decide +kernel
theorem dX5_firstLike_14 : decode cX5_firstLike 14 = .ok (.iload_n 2, 1) := by decide +kernel
theorem dX5_firstLike_15 : decode cX5_firstLike 15 = .ok (.aaload, 1) := by decide +kernel
theorem dX5_firstLike_16 : decode cX5_firstLike 16 = .ok (.aload_n 1, 1) := by decide +kernel
theorem dX5_firstLike_17 : decode cX5_firstLike 17 = .ok (.invokevirtual 57, 3) := by decide +kernel
theorem dX5_firstLike_20 : decode cX5_firstLike 20 = .ok (.ifCond .eq 5, 3) := by decide +kernel
theorem dX5_firstLike_23 : decode cX5_firstLike 23 = .ok (.iload_n 2, 1) := by decide +kernel
theorem dX5_firstLike_24 : decode cX5_firstLike 24 = .ok (.ireturn, 1) := by decide +kernel
theorem dX5_firstLike_25 : decode cX5_firstLike 25 = .ok (.iinc 2 1, 3) := by decide +kernel
theorem dX5_firstLike_28 : decode cX5_firstLike 28 = .ok (.goto (-26), 3) := by decide +kernel
theorem dX5_firstLike_31 : decode cX5_firstLike 31 = .ok (.aload_n 1, 1) := by decide +kernel
theorem dX5_firstLike_32 : decode cX5_firstLike 32 = .ok (.getfield 28, 3) := by decide +kernel
theorem dX5_firstLike_35 : decode cX5_firstLike 35 = .ok (.ireturn, 1) := by decide +kernel
theorem dX5_hashOf_0 : decode cX5_hashOf 0 = .ok (.aload_n 1, 1) := by decide +kernel
theorem dX5_hashOf_1 : decode cX5_hashOf 1 = .ok (.getfield 42, 3) := by decide +kernel
theorem dX5_hashOf_4 : decode cX5_hashOf 4 = .ok (.bipush 6, 2) := by decide +kernel
theorem dX5_hashOf_6 : decode cX5_hashOf 6 = .ok (.if_icmp .ne 16, 3) := by decide +kernel
theorem dX5_hashOf_9 : decode cX5_hashOf 9 = .ok (.bipush 31, 2) := by decide +kernel
theorem dX5_hashOf_11 : decode cX5_hashOf 11 = .ok (.aload_n 1, 1) := by decide +kernel
theorem dX5_hashOf_12 : decode cX5_hashOf 12 = .ok (.getfield 42, 3) := by decide +kernel
theorem dX5_hashOf_15 : decode cX5_hashOf 15 = .ok (.imul, 1) := by decide +kernel
theorem dX5_hashOf_16 : decode cX5_hashOf 16 = .ok (.aload_n 1, 1) := by decide +kernel
theorem dX5_hashOf_17 : decode cX5_hashOf 17 = .ok (.getfield 28, 3) := by decide +kernel
theorem dX5_hashOf_20 : decode cX5_hashOf 20 = .ok (.iadd, 1) := by decide +kernel
theorem dX5_hashOf_21 : decode cX5_hashOf 21 = .ok (.ireturn, 1) := by decide +kernel
theorem dX5_hashOf_22 : decode cX5_hashOf 22 = .ok (.aload_n 1, 1) := by decide +kernel
theorem dX5_hashOf_23 : decode cX5_hashOf 23 = .ok (.getfield 42, 3) := by decide +kernel
theorem dX5_hashOf_26 : decode cX5_hashOf 26 = .ok (.istore_n 2, 1) := by decide +kernel
theorem dX5_hashOf_27 : decode cX5_hashOf 27 = .ok (.aload_n 1, 1) := by decide +kernel
theorem dX5_hashOf_28 : decode cX5_hashOf 28 = .ok (.getfield 45, 3) := by decide +kernel
theorem dX5_hashOf_31 : decode cX5_hashOf 31 = .ok (.astore_n 3, 1) := by decide +kernel
theorem dX5_hashOf_32 : decode cX5_hashOf 32 = .ok (.aload_n 3, 1) := by decide +kernel
theorem dX5_hashOf_33 : decode cX5_hashOf 33 = .ok (.arraylength, 1) := by decide +kernel
theorem dX5_hashOf_34 : decode cX5_hashOf 34 = .ok (.istore 4, 2) := by decide +kernel
theorem dX5_hashOf_36 : decode cX5_hashOf 36 = .ok (.iconst 0, 1) := by decide +kernel
theorem dX5_hashOf_37 : decode cX5_hashOf 37 = .ok (.istore 5, 2) := by decide +kernel
theorem dX5_hashOf_39 : decode cX5_hashOf 39 = .ok (.iload 5, 2) := by decide +kernel
theorem dX5_hashOf_41 : decode cX5_hashOf 41 = .ok (.iload 4, 2) := by decide +kernel
theorem dX5_hashOf_43 : decode cX5_hashOf 43 = .ok (.if_icmp .ge 47, 3) := by decide +kernel
theorem dX5_hashOf_46 : decode cX5_hashOf 46 = .ok (.aload_n 3, 1) := by decide +kernel
theorem dX5_hashOf_47 : decode cX5_hashOf 47 = .ok (.iload 5, 2) := by decide +kernel
theorem dX5_hashOf_49 : decode cX5_hashOf 49 = .ok (.laload, 1) := by decide +kernel
theorem dX5_hashOf_50 : decode cX5_hashOf 50 = .ok (.lstore 6, 2) := by decide +kernel
theorem dX5_hashOf_52 : decode cX5_hashOf 52 = .ok (.bipush 31, 2) := by decide +kernel
theorem dX5_hashOf_54 : decode cX5_hashOf 54 = .ok (.iload_n 2, 1) := by decide +kernel
theorem dX5_hashOf_55 : decode cX5_hashOf 55 = .ok (.imul, 1) := by decide +kernel
theorem dX5_hashOf_56 : decode cX5_hashOf 56 = .ok (.aload_n 1, 1) := by decide +kernel
theorem dX5_hashOf_57 : decode cX5_hashOf 57 = .ok (.getfield 42, 3) := by decide +kernel
theorem dX5_hashOf_60 : decode cX5_hashOf 60 = .ok (.iconst 4, 1) := by decide +kernel
theorem dX5_hashOf_61 : decode cX5_hashOf 61 = .ok (.if_icmp .ne 12, 3) := by decide +kernel
theorem dX5_hashOf_64 : decode cX5_hashOf 64 = .ok (.aload_n 0, 1) := by decide +kernel
theorem dX5_hashOf_65 : decode cX5_hashOf 65 = .ok (.lload 6, 2) := by decide +kernel
theorem dX5_hashOf_67 : decode cX5_hashOf 67 = .ok (.invokevirtual 61, 3) := by decide +kernel
theorem dX5_hashOf_70 : decode cX5_hashOf 70 = .ok (.goto 12, 3) := by decide +kernel
theorem dX5_hashOf_73 : decode cX5_hashOf 73 = .ok (.lload 6, 2) := by decide +kernel
theorem dX5_hashOf_75 : decode cX5_hashOf 75 = .ok (.lload 6, 2) := by decide +kernel
theorem dX5_hashOf_77 : decode cX5_hashOf 77 = .ok (.bipush 32, 2) := by decide +kernel
theorem dX5_hashOf_79 : decode cX5_hashOf 79 = .ok (.lushr, 1) := by decide +kernel
theorem dX5_hashOf_80 : decode cX5_hashOf 80 = .ok (.lxor, 1) := by decide +kernel
theorem dX5_hashOf_81 : decode cX5_hashOf 81 = .ok (.l2i, 1) := by decide +kernel
theorem dX5_hashOf_82 : decode cX5_hashOf 82 = .ok (.iadd, 1) := by decide +kernel
theorem dX5_hashOf_83 : decode cX5_hashOf 83 = .ok (.istore_n 2, 1) := by decide +kernel
theorem dX5_hashOf_84 : decode cX5_hashOf 84 = .ok (.iinc 5 1, 3) := by decide +kernel
theorem dX5_hashOf_87 : decode cX5_hashOf 87 = .ok (.goto (-48), 3) := by decide +kernel
theorem dX5_hashOf_90 : decode cX5_hashOf 90 = .ok (.iload_n 2, 1) := by decide +kernel
theorem dX5_hashOf_91 : decode cX5_hashOf 91 = .ok (.ireturn, 1) := by decide +kernel
theorem dX5_hashOfNumbered_0 : decode cX5_hashOfNumbered 0 = .ok (.aload_n 0, 1) := by decide +kernel
theorem dX5_hashOfNumbered_1 : decode cX5_hashOfNumbered 1 = .ok (.lload_n 1, 1) := by decide +kernel
theorem dX5_hashOfNumbered_2 : decode cX5_hashOfNumbered 2 = .ok (.invokevirtual 24, 3) := by decide +kernel
theorem dX5_hashOfNumbered_5 : decode cX5_hashOfNumbered 5 = .ok (.astore_n 3, 1) := by decide +kernel
theorem dX5_hashOfNumbered_6 : decode cX5_hashOfNumbered 6 = .ok (.aload_n 3, 1) := by decide +kernel
theorem dX5_hashOfNumbered_7 : decode cX5_hashOfNumbered 7 = .ok (.ifnonnull 7, 3) := by decide +kernel
theorem dX5_hashOfNumbered_10 : decode cX5_hashOfNumbered 10 = .ok (.iconst 0, 1) := by decide +kernel
theorem dX5_hashOfNumbered_11 : decode cX5_hashOfNumbered 11 = .ok (.goto 7, 3) := by decide +kernel
theorem dX5_hashOfNumbered_14 : decode cX5_hashOfNumbered 14 = .ok (.aload_n 3, 1) := by decide +kernel
theorem dX5_hashOfNumbered_15 : decode cX5_hashOfNumbered 15 = .ok (.getfield 35, 3) := by decide +kernel
theorem dX5_hashOfNumbered_18 : decode cX5_hashOfNumbered 18 = .ok (.ireturn, 1) := by decide +kernel
theorem dX5_rank_0 : decode cX5_rank 0 = .ok (.aload_n 0, 1) := by decide +kernel
theorem dX5_rank_1 : decode cX5_rank 1 = .ok (.getfield 20, 3) := by decide +kernel
theorem dX5_rank_4 : decode cX5_rank 4 = .ok (.istore_n 2, 1) := by decide +kernel
theorem dX5_rank_5 : decode cX5_rank 5 = .ok (.iload_n 2, 1) := by decide +kernel
theorem dX5_rank_6 : decode cX5_rank 6 = .ok (.ifCond .le 25, 3) := by decide +kernel
theorem dX5_rank_9 : decode cX5_rank 9 = .ok (.aload_n 0, 1) := by decide +kernel
theorem dX5_rank_10 : decode cX5_rank 10 = .ok (.aload_n 0, 1) := by decide +kernel
theorem dX5_rank_11 : decode cX5_rank 11 = .ok (.getfield 17, 3) := by decide +kernel
theorem dX5_rank_14 : decode cX5_rank 14 = .ok (.iload_n 2, 1) := by decide +kernel
theorem dX5_rank_15 : decode cX5_rank 15 = .ok (.iconst 1, 1) := by decide +kernel
theorem dX5_rank_16 : decode cX5_rank 16 = .ok (.isub, 1) := by decide +kernel
theorem dX5_rank_17 : decode cX5_rank 17 = .ok (.aaload, 1) := by decide +kernel
theorem dX5_rank_18 : decode cX5_rank 18 = .ok (.aload_n 1, 1) := by decide +kernel
theorem dX5_rank_19 : decode cX5_rank 19 = .ok (.invokevirtual 65, 3) := by decide +kernel
theorem dX5_rank_22 : decode cX5_rank 22 = .ok (.ifCond .le 9, 3) := by decide +kernel
theorem dX5_rank_25 : decode cX5_rank 25 = .ok (.iinc 2 (-1), 3) := by decide +kernel
theorem dX5_rank_28 : decode cX5_rank 28 = .ok (.goto (-23), 3) := by decide +kernel
theorem dX5_rank_31 : decode cX5_rank 31 = .ok (.iload_n 2, 1) := by decide +kernel
theorem dX5_rank_32 : decode cX5_rank 32 = .ok (.ifCond .le 23, 3) := by decide +kernel
theorem dX5_rank_35 : decode cX5_rank 35 = .ok (.aload_n 0, 1) := by decide +kernel
theorem dX5_rank_36 : decode cX5_rank 36 = .ok (.aload_n 0, 1) := by decide +kernel
theorem dX5_rank_37 : decode cX5_rank 37 = .ok (.getfield 17, 3) := by decide +kernel
theorem dX5_rank_40 : decode cX5_rank 40 = .ok (.iload_n 2, 1) := by decide +kernel
theorem dX5_rank_41 : decode cX5_rank 41 = .ok (.iconst 1, 1) := by decide +kernel
theorem dX5_rank_42 : decode cX5_rank 42 = .ok (.isub, 1) := by decide +kernel
theorem dX5_rank_43 : decode cX5_rank 43 = .ok (.aaload, 1) := by decide +kernel
theorem dX5_rank_44 : decode cX5_rank 44 = .ok (.aload_n 1, 1) := by decide +kernel
theorem dX5_rank_45 : decode cX5_rank 45 = .ok (.invokevirtual 65, 3) := by decide +kernel
theorem dX5_rank_48 : decode cX5_rank 48 = .ok (.ifCond .ne 7, 3) := by decide +kernel
theorem dX5_rank_51 : decode cX5_rank 51 = .ok (.iconst 1, 1) := by decide +kernel
theorem dX5_rank_52 : decode cX5_rank 52 = .ok (.goto 4, 3) := by decide +kernel
theorem dX5_rank_55 : decode cX5_rank 55 = .ok (.iconst 0, 1) := by decide +kernel
theorem dX5_rank_56 : decode cX5_rank 56 = .ok (.istore_n 3, 1) := by decide +kernel
theorem dX5_rank_57 : decode cX5_rank 57 = .ok (.aload_n 1, 1) := by decide +kernel
theorem dX5_rank_58 : decode cX5_rank 58 = .ok (.iload_n 3, 1) := by decide +kernel
theorem dX5_rank_59 : decode cX5_rank 59 = .ok (.ifCond .eq 17, 3) := by decide +kernel
theorem dX5_rank_62 : decode cX5_rank 62 = .ok (.aload_n 0, 1) := by decide +kernel
theorem dX5_rank_63 : decode cX5_rank 63 = .ok (.getfield 17, 3) := by decide +kernel
theorem dX5_rank_66 : decode cX5_rank 66 = .ok (.iload_n 2, 1) := by decide +kernel
theorem dX5_rank_67 : decode cX5_rank 67 = .ok (.iconst 1, 1) := by decide +kernel
theorem dX5_rank_68 : decode cX5_rank 68 = .ok (.isub, 1) := by decide +kernel
theorem dX5_rank_69 : decode cX5_rank 69 = .ok (.aaload, 1) := by decide +kernel
theorem dX5_rank_70 : decode cX5_rank 70 = .ok (.getfield 69, 3) := by decide +kernel
theorem dX5_rank_73 : decode cX5_rank 73 = .ok (.goto 4, 3) := by decide +kernel
theorem dX5_rank_76 : decode cX5_rank 76 = .ok (.iload_n 2, 1) := by decide +kernel
theorem dX5_rank_77 : decode cX5_rank 77 = .ok (.putfield 69, 3) := by decide +kernel
theorem dX5_rank_80 : decode cX5_rank 80 = .ok (.aload_n 0, 1) := by decide +kernel
theorem dX5_rank_81 : decode cX5_rank 81 = .ok (.getfield 20, 3) := by decide +kernel
theorem dX5_rank_84 : decode cX5_rank 84 = .ok (.istore 4, 2) := by decide +kernel
theorem dX5_rank_86 : decode cX5_rank 86 = .ok (.iload 4, 2) := by decide +kernel
theorem dX5_rank_88 : decode cX5_rank 88 = .ok (.iload_n 2, 1) := by decide +kernel
theorem dX5_rank_89 : decode cX5_rank 89 = .ok (.if_icmp .le 41, 3) := by decide +kernel
theorem dX5_rank_92 : decode cX5_rank 92 = .ok (.aload_n 0, 1) := by decide +kernel
theorem dX5_rank_93 : decode cX5_rank 93 = .ok (.getfield 17, 3) := by decide +kernel
theorem dX5_rank_96 : decode cX5_rank 96 = .ok (.iload 4, 2) := by decide +kernel
theorem dX5_rank_98 : decode cX5_rank 98 = .ok (.aload_n 0, 1) := by decide +kernel
theorem dX5_rank_99 : decode cX5_rank 99 = .ok (.getfield 17, 3) := by decide +kernel
theorem dX5_rank_102 : decode cX5_rank 102 = .ok (.iload 4, 2) := by decide +kernel
theorem dX5_rank_104 : decode cX5_rank 104 = .ok (.iconst 1, 1) := by decide +kernel
theorem dX5_rank_105 : decode cX5_rank 105 = .ok (.isub, 1) := by decide +kernel
theorem dX5_rank_106 : decode cX5_rank 106 = .ok (.aaload, 1) := by decide +kernel
theorem dX5_rank_107 : decode cX5_rank 107 = .ok (.aastore, 1) := by decide +kernel
theorem dX5_rank_108 : decode cX5_rank 108 = .ok (.aload_n 0, 1) := by decide +kernel
theorem dX5_rank_109 : decode cX5_rank 109 = .ok (.getfield 17, 3) := by decide +kernel
theorem dX5_rank_112 : decode cX5_rank 112 = .ok (.iload 4, 2) := by decide +kernel
theorem dX5_rank_114 : decode cX5_rank 114 = .ok (.aaload, 1) := by decide +kernel
theorem dX5_rank_115 : decode cX5_rank 115 = .ok (.dup, 1) := by decide +kernel
theorem dX5_rank_116 : decode cX5_rank 116 = .ok (.getfield 69, 3) := by decide +kernel
theorem dX5_rank_119 : decode cX5_rank 119 = .ok (.iconst 1, 1) := by decide +kernel
theorem dX5_rank_120 : decode cX5_rank 120 = .ok (.iadd, 1) := by decide +kernel
theorem dX5_rank_121 : decode cX5_rank 121 = .ok (.putfield 69, 3) := by decide +kernel
theorem dX5_rank_124 : decode cX5_rank 124 = .ok (.iinc 4 (-1), 3) := by decide +kernel
theorem dX5_rank_127 : decode cX5_rank 127 = .ok (.goto (-41), 3) := by decide +kernel
theorem dX5_rank_130 : decode cX5_rank 130 = .ok (.aload_n 0, 1) := by decide +kernel
theorem dX5_rank_131 : decode cX5_rank 131 = .ok (.getfield 17, 3) := by decide +kernel
theorem dX5_rank_134 : decode cX5_rank 134 = .ok (.iload_n 2, 1) := by decide +kernel
theorem dX5_rank_135 : decode cX5_rank 135 = .ok (.aload_n 1, 1) := by decide +kernel
theorem dX5_rank_136 : decode cX5_rank 136 = .ok (.aastore, 1) := by decide +kernel
theorem dX5_rank_137 : decode cX5_rank 137 = .ok (.return_, 1) := by decide +kernel
theorem dX5_compare_0 : decode cX5_compare 0 = .ok (.aload_n 1, 1) := by decide +kernel
theorem dX5_compare_1 : decode cX5_compare 1 = .ok (.getfield 42, 3) := by decide +kernel
theorem dX5_compare_4 : decode cX5_compare 4 = .ok (.aload_n 2, 1) := by decide +kernel
theorem dX5_compare_5 : decode cX5_compare 5 = .ok (.getfield 42, 3) := by decide +kernel
theorem dX5_compare_8 : decode cX5_compare 8 = .ok (.if_icmp .eq 15, 3) := by decide +kernel
theorem dX5_compare_11 : decode cX5_compare 11 = .ok (.aload_n 1, 1) := by decide +kernel
theorem dX5_compare_12 : decode cX5_compare 12 = .ok (.getfield 42, 3) := by decide +kernel
theorem dX5_compare_15 : decode cX5_compare 15 = .ok (.aload_n 2, 1) := by decide +kernel
theorem dX5_compare_16 : decode cX5_compare 16 = .ok (.getfield 42, 3) := by decide +kernel
theorem dX5_compare_19 : decode cX5_compare 19 = .ok (.invokestatic 72, 3) := by decide +kernel
theorem dX5_compare_22 : decode cX5_compare 22 = .ok (.ireturn, 1) := by decide +kernel
theorem dX5_compare_23 : decode cX5_compare 23 = .ok (.aload_n 1, 1) := by decide +kernel
theorem dX5_compare_24 : decode cX5_compare 24 = .ok (.getfield 42, 3) := by decide +kernel
theorem dX5_compare_27 : decode cX5_compare 27 = .ok (.bipush 6, 2) := by decide +kernel
theorem dX5_compare_29 : decode cX5_compare 29 = .ok (.if_icmp .ne 15, 3) := by decide +kernel
theorem dX5_compare_32 : decode cX5_compare 32 = .ok (.aload_n 1, 1) := by decide +kernel
theorem dX5_compare_33 : decode cX5_compare 33 = .ok (.getfield 28, 3) := by decide +kernel
theorem dX5_compare_36 : decode cX5_compare 36 = .ok (.aload_n 2, 1) := by decide +kernel
theorem dX5_compare_37 : decode cX5_compare 37 = .ok (.getfield 28, 3) := by decide +kernel
theorem dX5_compare_40 : decode cX5_compare 40 = .ok (.invokestatic 72, 3) := by decide +kernel
theorem dX5_compare_43 : decode cX5_compare 43 = .ok (.ireturn, 1) := by decide +kernel
theorem dX5_compare_44 : decode cX5_compare 44 = .ok (.aload_n 0, 1) := by decide +kernel
theorem dX5_compare_45 : decode cX5_compare 45 = .ok (.aload_n 1, 1) := by decide +kernel
theorem dX5_compare_46 : decode cX5_compare 46 = .ok (.getfield 42, 3) := by decide +kernel
theorem dX5_compare_49 : decode cX5_compare 49 = .ok (.iconst 5, 1) := by decide +kernel
theorem dX5_compare_50 : decode cX5_compare 50 = .ok (.if_icmp .ne 7, 3) := by decide +kernel
theorem dX5_compare_53 : decode cX5_compare 53 = .ok (.iconst 3, 1) := by decide +kernel
theorem dX5_compare_54 : decode cX5_compare 54 = .ok (.goto 4, 3) := by decide +kernel
theorem dX5_compare_57 : decode cX5_compare 57 = .ok (.iconst 0, 1) := by decide +kernel
theorem dX5_compare_58 : decode cX5_compare 58 = .ok (.aload_n 1, 1) := by decide +kernel
theorem dX5_compare_59 : decode cX5_compare 59 = .ok (.aload_n 2, 1) := by decide +kernel
theorem dX5_compare_60 : decode cX5_compare 60 = .ok (.invokevirtual 77, 3) := by decide +kernel
theorem dX5_compare_63 : decode cX5_compare 63 = .ok (.istore_n 3, 1) := by decide +kernel
theorem dX5_compare_64 : decode cX5_compare 64 = .ok (.iload_n 3, 1) := by decide +kernel
theorem dX5_compare_65 : decode cX5_compare 65 = .ok (.ifCond .ne 19, 3) := by decide +kernel
theorem dX5_compare_68 : decode cX5_compare 68 = .ok (.aload_n 1, 1) := by decide +kernel
theorem dX5_compare_69 : decode cX5_compare 69 = .ok (.getfield 42, 3) := by decide +kernel
theorem dX5_compare_72 : decode cX5_compare 72 = .ok (.iconst 5, 1) := by decide +kernel
theorem dX5_compare_73 : decode cX5_compare 73 = .ok (.if_icmp .ne 11, 3) := by decide +kernel
theorem dX5_compare_76 : decode cX5_compare 76 = .ok (.aload_n 1, 1) := by decide +kernel
theorem dX5_compare_77 : decode cX5_compare 77 = .ok (.aload_n 2, 1) := by decide +kernel
theorem dX5_compare_78 : decode cX5_compare 78 = .ok (.invokestatic 81, 3) := by decide +kernel
theorem dX5_compare_81 : decode cX5_compare 81 = .ok (.goto 4, 3) := by decide +kernel
theorem dX5_compare_84 : decode cX5_compare 84 = .ok (.iload_n 3, 1) := by decide +kernel
theorem dX5_compare_85 : decode cX5_compare 85 = .ok (.ireturn, 1) := by decide +kernel
theorem dX5_compareAtK_0 : decode cX5_compareAtK 0 = .ok (.aload_n 0, 1) := by decide +kernel
theorem dX5_compareAtK_1 : decode cX5_compareAtK 1 = .ok (.getfield 45, 3) := by decide +kernel
theorem dX5_compareAtK_4 : decode cX5_compareAtK 4 = .ok (.iconst 2, 1) := by decide +kernel
theorem dX5_compareAtK_5 : decode cX5_compareAtK 5 = .ok (.laload, 1) := by decide +kernel
theorem dX5_compareAtK_6 : decode cX5_compareAtK 6 = .ok (.aload_n 1, 1) := by decide +kernel
theorem dX5_compareAtK_7 : decode cX5_compareAtK 7 = .ok (.getfield 45, 3) := by decide +kernel
theorem dX5_compareAtK_10 : decode cX5_compareAtK 10 = .ok (.iconst 2, 1) := by decide +kernel
theorem dX5_compareAtK_11 : decode cX5_compareAtK 11 = .ok (.laload, 1) := by decide +kernel
theorem dX5_compareAtK_12 : decode cX5_compareAtK 12 = .ok (.invokestatic 84, 3) := by decide +kernel
theorem dX5_compareAtK_15 : decode cX5_compareAtK 15 = .ok (.istore_n 2, 1) := by decide +kernel
theorem dX5_compareAtK_16 : decode cX5_compareAtK 16 = .ok (.iload_n 2, 1) := by decide +kernel
theorem dX5_compareAtK_17 : decode cX5_compareAtK 17 = .ok (.ifCond .eq 7, 3) := by decide +kernel
theorem dX5_compareAtK_20 : decode cX5_compareAtK 20 = .ok (.iload_n 2, 1) := by decide +kernel
theorem dX5_compareAtK_21 : decode cX5_compareAtK 21 = .ok (.goto 18, 3) := by decide +kernel
theorem dX5_compareAtK_24 : decode cX5_compareAtK 24 = .ok (.aload_n 0, 1) := by decide +kernel
theorem dX5_compareAtK_25 : decode cX5_compareAtK 25 = .ok (.getfield 45, 3) := by decide +kernel
theorem dX5_compareAtK_28 : decode cX5_compareAtK 28 = .ok (.iconst 1, 1) := by decide +kernel
theorem dX5_compareAtK_29 : decode cX5_compareAtK 29 = .ok (.laload, 1) := by decide +kernel
theorem dX5_compareAtK_30 : decode cX5_compareAtK 30 = .ok (.aload_n 1, 1) := by decide +kernel
theorem dX5_compareAtK_31 : decode cX5_compareAtK 31 = .ok (.getfield 45, 3) := by decide +kernel
theorem dX5_compareAtK_34 : decode cX5_compareAtK 34 = .ok (.iconst 1, 1) := by decide +kernel
theorem dX5_compareAtK_35 : decode cX5_compareAtK 35 = .ok (.laload, 1) := by decide +kernel
theorem dX5_compareAtK_36 : decode cX5_compareAtK 36 = .ok (.invokestatic 84, 3) := by decide +kernel
theorem dX5_compareAtK_39 : decode cX5_compareAtK 39 = .ok (.ireturn, 1) := by decide +kernel
theorem dX5_compareFrom_0 : decode cX5_compareFrom 0 = .ok (.aload_n 2, 1) := by decide +kernel
theorem dX5_compareFrom_1 : decode cX5_compareFrom 1 = .ok (.getfield 45, 3) := by decide +kernel
theorem dX5_compareFrom_4 : decode cX5_compareFrom 4 = .ok (.arraylength, 1) := by decide +kernel
theorem dX5_compareFrom_5 : decode cX5_compareFrom 5 = .ok (.aload_n 3, 1) := by decide +kernel
theorem dX5_compareFrom_6 : decode cX5_compareFrom 6 = .ok (.getfield 45, 3) := by decide +kernel
theorem dX5_compareFrom_9 : decode cX5_compareFrom 9 = .ok (.arraylength, 1) := by decide +kernel
theorem dX5_compareFrom_10 : decode cX5_compareFrom 10 = .ok (.invokestatic 89, 3) := by decide +kernel
theorem dX5_compareFrom_13 : decode cX5_compareFrom 13 = .ok (.istore 4, 2) := by decide +kernel
theorem dX5_compareFrom_15 : decode cX5_compareFrom 15 = .ok (.iload_n 1, 1) := by decide +kernel
theorem dX5_compareFrom_16 : decode cX5_compareFrom 16 = .ok (.istore 5, 2) := by decide +kernel
theorem dX5_compareFrom_18 : decode cX5_compareFrom 18 = .ok (.iload 5, 2) := by decide +kernel
theorem dX5_compareFrom_20 : decode cX5_compareFrom 20 = .ok (.iload 4, 2) := by decide +kernel
theorem dX5_compareFrom_22 : decode cX5_compareFrom 22 = .ok (.if_icmp .ge 52, 3) := by decide +kernel
theorem dX5_compareFrom_25 : decode cX5_compareFrom 25 = .ok (.aload_n 0, 1) := by decide +kernel
theorem dX5_compareFrom_26 : decode cX5_compareFrom 26 = .ok (.aload_n 2, 1) := by decide +kernel
theorem dX5_compareFrom_27 : decode cX5_compareFrom 27 = .ok (.getfield 42, 3) := by decide +kernel
theorem dX5_compareFrom_30 : decode cX5_compareFrom 30 = .ok (.aload_n 2, 1) := by decide +kernel
theorem dX5_compareFrom_31 : decode cX5_compareFrom 31 = .ok (.getfield 45, 3) := by decide +kernel
theorem dX5_compareFrom_34 : decode cX5_compareFrom 34 = .ok (.iload 5, 2) := by decide +kernel
theorem dX5_compareFrom_36 : decode cX5_compareFrom 36 = .ok (.laload, 1) := by decide +kernel
theorem dX5_compareFrom_37 : decode cX5_compareFrom 37 = .ok (.invokevirtual 94, 3) := by decide +kernel
theorem dX5_compareFrom_40 : decode cX5_compareFrom 40 = .ok (.aload_n 0, 1) := by decide +kernel
theorem dX5_compareFrom_41 : decode cX5_compareFrom 41 = .ok (.aload_n 3, 1) := by decide +kernel
theorem dX5_compareFrom_42 : decode cX5_compareFrom 42 = .ok (.getfield 42, 3) := by decide +kernel
theorem dX5_compareFrom_45 : decode cX5_compareFrom 45 = .ok (.aload_n 3, 1) := by decide +kernel
theorem dX5_compareFrom_46 : decode cX5_compareFrom 46 = .ok (.getfield 45, 3) := by decide +kernel
theorem dX5_compareFrom_49 : decode cX5_compareFrom 49 = .ok (.iload 5, 2) := by decide +kernel
theorem dX5_compareFrom_51 : decode cX5_compareFrom 51 = .ok (.laload, 1) := by decide +kernel
theorem dX5_compareFrom_52 : decode cX5_compareFrom 52 = .ok (.invokevirtual 94, 3) := by decide +kernel
theorem dX5_compareFrom_55 : decode cX5_compareFrom 55 = .ok (.invokestatic 84, 3) := by decide +kernel
theorem dX5_compareFrom_58 : decode cX5_compareFrom 58 = .ok (.istore 6, 2) := by decide +kernel
theorem dX5_compareFrom_60 : decode cX5_compareFrom 60 = .ok (.iload 6, 2) := by decide +kernel
theorem dX5_compareFrom_62 : decode cX5_compareFrom 62 = .ok (.ifCond .eq 6, 3) := by decide +kernel
theorem dX5_compareFrom_65 : decode cX5_compareFrom 65 = .ok (.iload 6, 2) := by decide +kernel
theorem dX5_compareFrom_67 : decode cX5_compareFrom 67 = .ok (.ireturn, 1) := by decide +kernel
theorem dX5_compareFrom_68 : decode cX5_compareFrom 68 = .ok (.iinc 5 1, 3) := by decide +kernel
theorem dX5_compareFrom_71 : decode cX5_compareFrom 71 = .ok (.goto (-53), 3) := by decide +kernel
theorem dX5_compareFrom_74 : decode cX5_compareFrom 74 = .ok (.aload_n 2, 1) := by decide +kernel
theorem dX5_compareFrom_75 : decode cX5_compareFrom 75 = .ok (.getfield 45, 3) := by decide +kernel
theorem dX5_compareFrom_78 : decode cX5_compareFrom 78 = .ok (.arraylength, 1) := by decide +kernel
theorem dX5_compareFrom_79 : decode cX5_compareFrom 79 = .ok (.aload_n 3, 1) := by decide +kernel
theorem dX5_compareFrom_80 : decode cX5_compareFrom 80 = .ok (.getfield 45, 3) := by decide +kernel
theorem dX5_compareFrom_83 : decode cX5_compareFrom 83 = .ok (.arraylength, 1) := by decide +kernel
theorem dX5_compareFrom_84 : decode cX5_compareFrom 84 = .ok (.invokestatic 72, 3) := by decide +kernel
theorem dX5_compareFrom_87 : decode cX5_compareFrom 87 = .ok (.ireturn, 1) := by decide +kernel
theorem dX5_sortKey_0 : decode cX5_sortKey 0 = .ok (.iload_n 1, 1) := by decide +kernel
theorem dX5_sortKey_1 : decode cX5_sortKey 1 = .ok (.ifCond .ne 19, 3) := by decide +kernel
theorem dX5_sortKey_4 : decode cX5_sortKey 4 = .ok (.lload_n 2, 1) := by decide +kernel
theorem dX5_sortKey_5 : decode cX5_sortKey 5 = .ok (.lconst 0, 1) := by decide +kernel
theorem dX5_sortKey_6 : decode cX5_sortKey 6 = .ok (.lcmp, 1) := by decide +kernel
theorem dX5_sortKey_7 : decode cX5_sortKey 7 = .ok (.ifCond .ge 11, 3) := by decide +kernel
theorem dX5_sortKey_10 : decode cX5_sortKey 10 = .ok (.lload_n 2, 1) := by decide +kernel
theorem dX5_sortKey_11 : decode cX5_sortKey 11 = .ok (.ldc2_w 98, 3) := by decide +kernel
theorem dX5_sortKey_14 : decode cX5_sortKey 14 = .ok (.lxor, 1) := by decide +kernel
theorem dX5_sortKey_15 : decode cX5_sortKey 15 = .ok (.goto 4, 3) := by decide +kernel
theorem dX5_sortKey_18 : decode cX5_sortKey 18 = .ok (.lload_n 2, 1) := by decide +kernel
theorem dX5_sortKey_19 : decode cX5_sortKey 19 = .ok (.lreturn, 1) := by decide +kernel
theorem dX5_sortKey_20 : decode cX5_sortKey 20 = .ok (.iload_n 1, 1) := by decide +kernel
theorem dX5_sortKey_21 : decode cX5_sortKey 21 = .ok (.iconst 4, 1) := by decide +kernel
theorem dX5_sortKey_22 : decode cX5_sortKey 22 = .ok (.if_icmp .ne 28, 3) := by decide +kernel
theorem dX5_sortKey_25 : decode cX5_sortKey 25 = .ok (.aload_n 0, 1) := by decide +kernel
theorem dX5_sortKey_26 : decode cX5_sortKey 26 = .ok (.lload_n 2, 1) := by decide +kernel
theorem dX5_sortKey_27 : decode cX5_sortKey 27 = .ok (.invokevirtual 24, 3) := by decide +kernel
theorem dX5_sortKey_30 : decode cX5_sortKey 30 = .ok (.astore 4, 2) := by decide +kernel
theorem dX5_sortKey_32 : decode cX5_sortKey 32 = .ok (.aload 4, 2) := by decide +kernel
theorem dX5_sortKey_34 : decode cX5_sortKey 34 = .ok (.ifnonnull 9, 3) := by decide +kernel
theorem dX5_sortKey_37 : decode cX5_sortKey 37 = .ok (.ldc2_w 100, 3) := by decide +kernel
theorem dX5_sortKey_40 : decode cX5_sortKey 40 = .ok (.goto 9, 3) := by decide +kernel
theorem dX5_sortKey_43 : decode cX5_sortKey 43 = .ok (.aload 4, 2) := by decide +kernel
theorem dX5_sortKey_45 : decode cX5_sortKey 45 = .ok (.getfield 69, 3) := by decide +kernel
theorem dX5_sortKey_48 : decode cX5_sortKey 48 = .ok (.i2l, 1) := by decide +kernel
theorem dX5_sortKey_49 : decode cX5_sortKey 49 = .ok (.lreturn, 1) := by decide +kernel
theorem dX5_sortKey_50 : decode cX5_sortKey 50 = .ok (.lload_n 2, 1) := by decide +kernel
theorem dX5_sortKey_51 : decode cX5_sortKey 51 = .ok (.lreturn, 1) := by decide +kernel
theorem dX6_init_0 : decode cX6_init 0 = .ok (.aload_n 0, 1) := by decide +kernel
theorem dX6_init_1 : decode cX6_init 1 = .ok (.invokespecial 3, 3) := by decide +kernel
theorem dX6_init_4 : decode cX6_init 4 = .ok (.aload_n 0, 1) := by decide +kernel
theorem dX6_init_5 : decode cX6_init 5 = .ok (.bipush 40, 2) := by decide +kernel
theorem dX6_init_7 : decode cX6_init 7 = .ok (.newarray .int, 2) := by decide +kernel
theorem dX6_init_9 : decode cX6_init 9 = .ok (.putfield 11, 3) := by decide +kernel
theorem dX6_init_12 : decode cX6_init 12 = .ok (.aload_n 0, 1) := by decide +kernel
theorem dX6_init_13 : decode cX6_init 13 = .ok (.bipush 40, 2) := by decide +kernel
theorem dX6_init_15 : decode cX6_init 15 = .ok (.newarray .int, 2) := by decide +kernel
theorem dX6_init_17 : decode cX6_init 17 = .ok (.putfield 15, 3) := by decide +kernel
theorem dX6_init_20 : decode cX6_init 20 = .ok (.aload_n 0, 1) := by decide +kernel
theorem dX6_init_21 : decode cX6_init 21 = .ok (.iconst 0, 1) := by decide +kernel
theorem dX6_init_22 : decode cX6_init 22 = .ok (.putfield 18, 3) := by decide +kernel
theorem dX6_init_25 : decode cX6_init 25 = .ok (.return_, 1) := by decide +kernel
theorem dX6_store_0 : decode cX6_store 0 = .ok (.aload_n 0, 1) := by decide +kernel
theorem dX6_store_1 : decode cX6_store 1 = .ok (.iload_n 1, 1) := by decide +kernel
theorem dX6_store_2 : decode cX6_store 2 = .ok (.invokevirtual 22, 3) := by decide +kernel
theorem dX6_store_5 : decode cX6_store 5 = .ok (.istore_n 3, 1) := by decide +kernel
theorem dX6_store_6 : decode cX6_store 6 = .ok (.iload_n 3, 1) := by decide +kernel
theorem dX6_store_7 : decode cX6_store 7 = .ok (.iconst (-1), 1) := by decide +kernel
theorem dX6_store_8 : decode cX6_store 8 = .ok (.if_icmp .eq 12, 3) := by decide +kernel
theorem dX6_store_11 : decode cX6_store 11 = .ok (.aload_n 0, 1) := by decide +kernel
theorem dX6_store_12 : decode cX6_store 12 = .ok (.getfield 15, 3) := by decide +kernel
theorem dX6_store_15 : decode cX6_store 15 = .ok (.iload_n 3, 1) := by decide +kernel
theorem dX6_store_16 : decode cX6_store 16 = .ok (.iload_n 2, 1) := by decide +kernel
theorem dX6_store_17 : decode cX6_store 17 = .ok (.iastore, 1) := by decide +kernel
theorem dX6_store_18 : decode cX6_store 18 = .ok (.iconst 1, 1) := by decide +kernel
theorem dX6_store_19 : decode cX6_store 19 = .ok (.ireturn, 1) := by decide +kernel
theorem dX6_store_20 : decode cX6_store 20 = .ok (.aload_n 0, 1) := by decide +kernel
theorem dX6_store_21 : decode cX6_store 21 = .ok (.getfield 18, 3) := by decide +kernel
theorem dX6_store_24 : decode cX6_store 24 = .ok (.bipush 40, 2) := by decide +kernel
theorem dX6_store_26 : decode cX6_store 26 = .ok (.if_icmp .lt 6, 3) := by decide +kernel
theorem dX6_store_29 : decode cX6_store 29 = .ok (.bipush (-3), 2) := by decide +kernel
theorem dX6_store_31 : decode cX6_store 31 = .ok (.ireturn, 1) := by decide +kernel
theorem dX6_store_32 : decode cX6_store 32 = .ok (.aload_n 0, 1) := by decide +kernel
theorem dX6_store_33 : decode cX6_store 33 = .ok (.getfield 11, 3) := by decide +kernel
theorem dX6_store_36 : decode cX6_store 36 = .ok (.aload_n 0, 1) := by decide +kernel
theorem dX6_store_37 : decode cX6_store 37 = .ok (.getfield 18, 3) := by decide +kernel
theorem dX6_store_40 : decode cX6_store 40 = .ok (.iload_n 1, 1) := by decide +kernel
theorem dX6_store_41 : decode cX6_store 41 = .ok (.iastore, 1) := by decide +kernel
theorem dX6_store_42 : decode cX6_store 42 = .ok (.aload_n 0, 1) := by decide +kernel
theorem dX6_store_43 : decode cX6_store 43 = .ok (.getfield 15, 3) := by decide +kernel
theorem dX6_store_46 : decode cX6_store 46 = .ok (.aload_n 0, 1) := by decide +kernel
theorem dX6_store_47 : decode cX6_store 47 = .ok (.getfield 18, 3) := by decide +kernel
theorem dX6_store_50 : decode cX6_store 50 = .ok (.iload_n 2, 1) := by decide +kernel
theorem dX6_store_51 : decode cX6_store 51 = .ok (.iastore, 1) := by decide +kernel
theorem dX6_store_52 : decode cX6_store 52 = .ok (.aload_n 0, 1) := by decide +kernel
theorem dX6_store_53 : decode cX6_store 53 = .ok (.dup, 1) := by decide +kernel
theorem dX6_store_54 : decode cX6_store 54 = .ok (.getfield 18, 3) := by decide +kernel
theorem dX6_store_57 : decode cX6_store 57 = .ok (.iconst 1, 1) := by decide +kernel
theorem dX6_store_58 : decode cX6_store 58 = .ok (.iadd, 1) := by decide +kernel
theorem dX6_store_59 : decode cX6_store 59 = .ok (.putfield 18, 3) := by decide +kernel
theorem dX6_store_62 : decode cX6_store 62 = .ok (.iconst 0, 1) := by decide +kernel
theorem dX6_store_63 : decode cX6_store 63 = .ok (.ireturn, 1) := by decide +kernel
theorem dX6_valueOf_0 : decode cX6_valueOf 0 = .ok (.aload_n 0, 1) := by decide +kernel
theorem dX6_valueOf_1 : decode cX6_valueOf 1 = .ok (.iload_n 1, 1) := by decide +kernel
theorem dX6_valueOf_2 : decode cX6_valueOf 2 = .ok (.invokevirtual 22, 3) := by decide +kernel
theorem dX6_valueOf_5 : decode cX6_valueOf 5 = .ok (.istore_n 2, 1) := by decide +kernel
theorem dX6_valueOf_6 : decode cX6_valueOf 6 = .ok (.iload_n 2, 1) := by decide +kernel
theorem dX6_valueOf_7 : decode cX6_valueOf 7 = .ok (.iconst (-1), 1) := by decide +kernel
theorem dX6_valueOf_8 : decode cX6_valueOf 8 = .ok (.if_icmp .ne 7, 3) := by decide +kernel
theorem dX6_valueOf_11 : decode cX6_valueOf 11 = .ok (.iconst 0, 1) := by decide +kernel
theorem dX6_valueOf_12 : decode cX6_valueOf 12 = .ok (.goto 9, 3) := by decide +kernel
theorem dX6_valueOf_15 : decode cX6_valueOf 15 = .ok (.aload_n 0, 1) := by decide +kernel
theorem dX6_valueOf_16 : decode cX6_valueOf 16 = .ok (.getfield 15, 3) := by decide +kernel
theorem dX6_valueOf_19 : decode cX6_valueOf 19 = .ok (.iload_n 2, 1) := by decide +kernel
theorem dX6_valueOf_20 : decode cX6_valueOf 20 = .ok (.iaload, 1) := by decide +kernel
theorem dX6_valueOf_21 : decode cX6_valueOf 21 = .ok (.ireturn, 1) := by decide +kernel
theorem dX6_placeOf_0 : decode cX6_placeOf 0 = .ok (.iconst 0, 1) := by decide +kernel
theorem dX6_placeOf_1 : decode cX6_placeOf 1 = .ok (.istore_n 2, 1) := by decide +kernel
theorem dX6_placeOf_2 : decode cX6_placeOf 2 = .ok (.iload_n 2, 1) := by decide +kernel
theorem dX6_placeOf_3 : decode cX6_placeOf 3 = .ok (.aload_n 0, 1) := by decide +kernel
theorem dX6_placeOf_4 : decode cX6_placeOf 4 = .ok (.getfield 18, 3) := by decide +kernel
theorem dX6_placeOf_7 : decode cX6_placeOf 7 = .ok (.if_icmp .ge 21, 3) := by decide +kernel
theorem dX6_placeOf_10 : decode cX6_placeOf 10 = .ok (.aload_n 0, 1) := by decide +kernel
theorem dX6_placeOf_11 : decode cX6_placeOf 11 = .ok (.getfield 11, 3) := by decide +kernel
theorem dX6_placeOf_14 : decode cX6_placeOf 14 = .ok (.iload_n 2, 1) := by decide +kernel
theorem dX6_placeOf_15 : decode cX6_placeOf 15 = .ok (.iaload, 1) := by decide +kernel
theorem dX6_placeOf_16 : decode cX6_placeOf 16 = .ok (.iload_n 1, 1) := by decide +kernel
theorem dX6_placeOf_17 : decode cX6_placeOf 17 = .ok (.if_icmp .ne 5, 3) := by decide +kernel
theorem dX6_placeOf_20 : decode cX6_placeOf 20 = .ok (.iload_n 2, 1) := by decide +kernel
theorem dX6_placeOf_21 : decode cX6_placeOf 21 = .ok (.ireturn, 1) := by decide +kernel
theorem dX6_placeOf_22 : decode cX6_placeOf 22 = .ok (.iinc 2 1, 3) := by decide +kernel
theorem dX6_placeOf_25 : decode cX6_placeOf 25 = .ok (.goto (-23), 3) := by decide +kernel
theorem dX6_placeOf_28 : decode cX6_placeOf 28 = .ok (.iconst (-1), 1) := by decide +kernel
theorem dX6_placeOf_29 : decode cX6_placeOf 29 = .ok (.ireturn, 1) := by decide +kernel
theorem dX7_init_0 : decode cX7_init 0 = .ok (.aload_n 0, 1) := by decide +kernel
theorem dX7_init_1 : decode cX7_init 1 = .ok (.invokespecial 1, 3) := by decide +kernel
theorem dX7_init_4 : decode cX7_init 4 = .ok (.aload_n 0, 1) := by decide +kernel
theorem dX7_init_5 : decode cX7_init 5 = .ok (.new 7, 3) := by decide +kernel
theorem dX7_init_8 : decode cX7_init 8 = .ok (.dup, 1) := by decide +kernel
theorem dX7_init_9 : decode cX7_init 9 = .ok (.invokespecial 9, 3) := by decide +kernel
theorem dX7_init_12 : decode cX7_init 12 = .ok (.putfield 10, 3) := by decide +kernel
theorem dX7_init_15 : decode cX7_init 15 = .ok (.aload_n 0, 1) := by decide +kernel
theorem dX7_init_16 : decode cX7_init 16 = .ok (.new 16, 3) := by decide +kernel
theorem dX7_init_19 : decode cX7_init 19 = .ok (.dup, 1) := by decide +kernel
theorem dX7_init_20 : decode cX7_init 20 = .ok (.invokespecial 18, 3) := by decide +kernel
theorem dX7_init_23 : decode cX7_init 23 = .ok (.putfield 19, 3) := by decide +kernel
theorem dX7_init_26 : decode cX7_init 26 = .ok (.aload_n 0, 1) := by decide +kernel
theorem dX7_init_27 : decode cX7_init 27 = .ok (.bipush 12, 2) := by decide +kernel
theorem dX7_init_29 : decode cX7_init 29 = .ok (.newarray .int, 2) := by decide +kernel
theorem dX7_init_31 : decode cX7_init 31 = .ok (.putfield 23, 3) := by decide +kernel
theorem dX7_init_34 : decode cX7_init 34 = .ok (.aload_n 0, 1) := by decide +kernel
theorem dX7_init_35 : decode cX7_init 35 = .ok (.iconst 0, 1) := by decide +kernel
theorem dX7_init_36 : decode cX7_init 36 = .ok (.putfield 27, 3) := by decide +kernel
theorem dX7_init_39 : decode cX7_init 39 = .ok (.aload_n 0, 1) := by decide +kernel
theorem dX7_init_40 : decode cX7_init 40 = .ok (.bipush 6, 2) := by decide +kernel
theorem dX7_init_42 : decode cX7_init 42 = .ok (.anewarray 31, 3) := by decide +kernel
theorem dX7_init_45 : decode cX7_init 45 = .ok (.putfield 33, 3) := by decide +kernel
theorem dX7_init_48 : decode cX7_init 48 = .ok (.aload_n 0, 1) := by decide +kernel
theorem dX7_init_49 : decode cX7_init 49 = .ok (.iconst 0, 1) := by decide +kernel
theorem dX7_init_50 : decode cX7_init 50 = .ok (.putfield 37, 3) := by decide +kernel
theorem dX7_init_53 : decode cX7_init 53 = .ok (.aload_n 0, 1) := by decide +kernel
theorem dX7_init_54 : decode cX7_init 54 = .ok (.bipush 60, 2) := by decide +kernel
theorem dX7_init_56 : decode cX7_init 56 = .ok (.anewarray 40, 3) := by decide +kernel
theorem dX7_init_59 : decode cX7_init 59 = .ok (.putfield 42, 3) := by decide +kernel
theorem dX7_init_62 : decode cX7_init 62 = .ok (.aload_n 0, 1) := by decide +kernel
theorem dX7_init_63 : decode cX7_init 63 = .ok (.iconst 0, 1) := by decide +kernel
theorem dX7_init_64 : decode cX7_init 64 = .ok (.putfield 46, 3) := by decide +kernel
theorem dX7_init_67 : decode cX7_init 67 = .ok (.aload_n 0, 1) := by decide +kernel
theorem dX7_init_68 : decode cX7_init 68 = .ok (.iconst 4, 1) := by decide +kernel
theorem dX7_init_69 : decode cX7_init 69 = .ok (.anewarray 49, 3) := by decide +kernel
theorem dX7_init_72 : decode cX7_init 72 = .ok (.putfield 51, 3) := by decide +kernel
theorem dX7_init_75 : decode cX7_init 75 = .ok (.aload_n 0, 1) := by decide +kernel
theorem dX7_init_76 : decode cX7_init 76 = .ok (.new 55, 3) := by decide +kernel
theorem dX7_init_79 : decode cX7_init 79 = .ok (.dup, 1) := by decide +kernel
theorem dX7_init_80 : decode cX7_init 80 = .ok (.invokespecial 57, 3) := by decide +kernel
theorem dX7_init_83 : decode cX7_init 83 = .ok (.putfield 58, 3) := by decide +kernel
theorem dX7_init_86 : decode cX7_init 86 = .ok (.aload_n 0, 1) := by decide +kernel
theorem dX7_init_87 : decode cX7_init 87 = .ok (.lconst 1, 1) := by decide +kernel
theorem dX7_init_88 : decode cX7_init 88 = .ok (.putfield 62, 3) := by decide +kernel
theorem dX7_init_91 : decode cX7_init 91 = .ok (.iconst 0, 1) := by decide +kernel
theorem dX7_init_92 : decode cX7_init 92 = .ok (.istore_n 1, 1) := by decide +kernel
theorem dX7_init_93 : decode cX7_init 93 = .ok (.iload_n 1, 1) := by decide +kernel
theorem dX7_init_94 : decode cX7_init 94 = .ok (.iconst 4, 1) := by decide +kernel
theorem dX7_init_95 : decode cX7_init 95 = .ok (.if_icmp .ge 22, 3) := by decide +kernel
theorem dX7_init_98 : decode cX7_init 98 = .ok (.aload_n 0, 1) := by decide +kernel
theorem dX7_init_99 : decode cX7_init 99 = .ok (.getfield 51, 3) := by decide +kernel
theorem dX7_init_102 : decode cX7_init 102 = .ok (.iload_n 1, 1) := by decide +kernel
theorem dX7_init_103 : decode cX7_init 103 = .ok (.new 49, 3) := by decide +kernel
theorem dX7_init_106 : decode cX7_init 106 = .ok (.dup, 1) := by decide +kernel
theorem dX7_init_107 : decode cX7_init 107 = .ok (.invokespecial 66, 3) := by decide +kernel
theorem dX7_init_110 : decode cX7_init 110 = .ok (.aastore, 1) := by decide +kernel
theorem dX7_init_111 : decode cX7_init 111 = .ok (.iinc 1 1, 3) := by decide +kernel
theorem dX7_init_114 : decode cX7_init 114 = .ok (.goto (-21), 3) := by decide +kernel
theorem dX7_init_117 : decode cX7_init 117 = .ok (.return_, 1) := by decide +kernel
theorem dX7_cause_0 : decode cX7_cause 0 = .ok (.iload_n 1, 1) := by decide +kernel
theorem dX7_cause_1 : decode cX7_cause 1 = .ok (.tableswitch 51 0 2 #[27, 35, 43], 27) := by decide +kernel
theorem dX7_cause_28 : decode cX7_cause 28 = .ok (.aload_n 0, 1) := by decide +kernel
theorem dX7_cause_29 : decode cX7_cause 29 = .ok (.getfield 10, 3) := by decide +kernel
theorem dX7_cause_32 : decode cX7_cause 32 = .ok (.getfield 67, 3) := by decide +kernel
theorem dX7_cause_35 : decode cX7_cause 35 = .ok (.ireturn, 1) := by decide +kernel
theorem dX7_cause_36 : decode cX7_cause 36 = .ok (.aload_n 0, 1) := by decide +kernel
theorem dX7_cause_37 : decode cX7_cause 37 = .ok (.getfield 10, 3) := by decide +kernel
theorem dX7_cause_40 : decode cX7_cause 40 = .ok (.getfield 70, 3) := by decide +kernel
theorem dX7_cause_43 : decode cX7_cause 43 = .ok (.ireturn, 1) := by decide +kernel
theorem dX7_cause_44 : decode cX7_cause 44 = .ok (.aload_n 0, 1) := by decide +kernel
theorem dX7_cause_45 : decode cX7_cause 45 = .ok (.getfield 10, 3) := by decide +kernel
theorem dX7_cause_48 : decode cX7_cause 48 = .ok (.getfield 73, 3) := by decide +kernel
theorem dX7_cause_51 : decode cX7_cause 51 = .ok (.ireturn, 1) := by decide +kernel
theorem dX7_cause_52 : decode cX7_cause 52 = .ok (.bipush (-2), 2) := by decide +kernel
theorem dX7_cause_54 : decode cX7_cause 54 = .ok (.ireturn, 1) := by decide +kernel
theorem dX7_lay_0 : decode cX7_lay 0 = .ok (.aload_n 0, 1) := by decide +kernel
theorem dX7_lay_1 : decode cX7_lay 1 = .ok (.getfield 27, 3) := by decide +kernel
theorem dX7_lay_4 : decode cX7_lay 4 = .ok (.bipush 12, 2) := by decide +kernel
theorem dX7_lay_6 : decode cX7_lay 6 = .ok (.if_icmp .lt 6, 3) := by decide +kernel
theorem dX7_lay_9 : decode cX7_lay 9 = .ok (.bipush (-3), 2) := by decide +kernel
theorem dX7_lay_11 : decode cX7_lay 11 = .ok (.ireturn, 1) := by decide +kernel
theorem dX7_lay_12 : decode cX7_lay 12 = .ok (.aload_n 0, 1) := by decide +kernel
theorem dX7_lay_13 : decode cX7_lay 13 = .ok (.getfield 23, 3) := by decide +kernel
theorem dX7_lay_16 : decode cX7_lay 16 = .ok (.aload_n 0, 1) := by decide +kernel
theorem dX7_lay_17 : decode cX7_lay 17 = .ok (.getfield 27, 3) := by decide +kernel
theorem dX7_lay_20 : decode cX7_lay 20 = .ok (.iload_n 1, 1) := by decide +kernel
theorem dX7_lay_21 : decode cX7_lay 21 = .ok (.iastore, 1) := by decide +kernel
theorem dX7_lay_22 : decode cX7_lay 22 = .ok (.aload_n 0, 1) := by decide +kernel
theorem dX7_lay_23 : decode cX7_lay 23 = .ok (.dup, 1) := by decide +kernel
theorem dX7_lay_24 : decode cX7_lay 24 = .ok (.getfield 27, 3) := by decide +kernel
theorem dX7_lay_27 : decode cX7_lay 27 = .ok (.iconst 1, 1) := by decide +kernel
theorem dX7_lay_28 : decode cX7_lay 28 = .ok (.iadd, 1) := by decide +kernel
theorem dX7_lay_29 : decode cX7_lay 29 = .ok (.putfield 27, 3) := by decide +kernel
theorem dX7_lay_32 : decode cX7_lay 32 = .ok (.aload_n 0, 1) := by decide +kernel
theorem dX7_lay_33 : decode cX7_lay 33 = .ok (.getfield 27, 3) := by decide +kernel
theorem dX7_lay_36 : decode cX7_lay 36 = .ok (.ireturn, 1) := by decide +kernel
theorem dX7_wipe_0 : decode cX7_wipe 0 = .ok (.aload_n 0, 1) := by decide +kernel
theorem dX7_wipe_1 : decode cX7_wipe 1 = .ok (.getfield 27, 3) := by decide +kernel
theorem dX7_wipe_4 : decode cX7_wipe 4 = .ok (.istore_n 1, 1) := by decide +kernel
theorem dX7_wipe_5 : decode cX7_wipe 5 = .ok (.aload_n 0, 1) := by decide +kernel
theorem dX7_wipe_6 : decode cX7_wipe 6 = .ok (.iconst 0, 1) := by decide +kernel
theorem dX7_wipe_7 : decode cX7_wipe 7 = .ok (.putfield 27, 3) := by decide +kernel
theorem dX7_wipe_10 : decode cX7_wipe 10 = .ok (.iload_n 1, 1) := by decide +kernel
theorem dX7_wipe_11 : decode cX7_wipe 11 = .ok (.ireturn, 1) := by decide +kernel
theorem dX7_point_0 : decode cX7_point 0 = .ok (.aload_n 0, 1) := by decide +kernel
theorem dX7_point_1 : decode cX7_point 1 = .ok (.getfield 10, 3) := by decide +kernel
theorem dX7_point_4 : decode cX7_point 4 = .ok (.invokevirtual 76, 3) := by decide +kernel
theorem dX7_point_7 : decode cX7_point 7 = .ok (.aload_n 0, 1) := by decide +kernel
theorem dX7_point_8 : decode cX7_point 8 = .ok (.getfield 19, 3) := by decide +kernel
theorem dX7_point_11 : decode cX7_point 11 = .ok (.invokevirtual 79, 3) := by decide +kernel
theorem dX7_point_14 : decode cX7_point 14 = .ok (.ifCond .eq 6, 3) := by decide +kernel
theorem dX7_point_17 : decode cX7_point 17 = .ok (.bipush (-3), 2) := by decide +kernel
theorem dX7_point_19 : decode cX7_point 19 = .ok (.ireturn, 1) := by decide +kernel
theorem dX7_point_20 : decode cX7_point 20 = .ok (.aload_n 0, 1) := by decide +kernel
theorem dX7_point_21 : decode cX7_point 21 = .ok (.getfield 19, 3) := by decide +kernel
theorem dX7_point_24 : decode cX7_point 24 = .ok (.new 83, 3) := by decide +kernel
theorem dX7_point_27 : decode cX7_point 27 = .ok (.dup, 1) := by decide +kernel
theorem dX7_point_28 : decode cX7_point 28 = .ok (.iconst 0, 1) := by decide +kernel
theorem dX7_point_29 : decode cX7_point 29 = .ok (.iconst 2, 1) := by decide +kernel
theorem dX7_point_30 : decode cX7_point 30 = .ok (.newarray .long, 2) := by decide +kernel
theorem dX7_point_32 : decode cX7_point 32 = .ok (.dup, 1) := by decide +kernel
theorem dX7_point_33 : decode cX7_point 33 = .ok (.iconst 0, 1) := by decide +kernel
theorem dX7_point_34 : decode cX7_point 34 = .ok (.lload_n 1, 1) := by decide +kernel
theorem dX7_point_35 : decode cX7_point 35 = .ok (.invokestatic 85, 3) := by decide +kernel
theorem dX7_point_38 : decode cX7_point 38 = .ok (.lastore, 1) := by decide +kernel
theorem dX7_point_39 : decode cX7_point 39 = .ok (.dup, 1) := by decide +kernel
theorem dX7_point_40 : decode cX7_point 40 = .ok (.iconst 1, 1) := by decide +kernel
theorem dX7_point_41 : decode cX7_point 41 = .ok (.lload_n 3, 1) := by decide +kernel
theorem dX7_point_42 : decode cX7_point 42 = .ok (.invokestatic 85, 3) := by decide +kernel
theorem dX7_point_45 : decode cX7_point 45 = .ok (.lastore, 1) := by decide +kernel
theorem dX7_point_46 : decode cX7_point 46 = .ok (.lconst 1, 1) := by decide +kernel
theorem dX7_point_47 : decode cX7_point 47 = .ok (.invokespecial 89, 3) := by decide +kernel
theorem dX7_point_50 : decode cX7_point 50 = .ok (.invokevirtual 92, 3) := by decide +kernel
theorem dX7_point_53 : decode cX7_point 53 = .ok (.ireturn, 1) := by decide +kernel
theorem dX7_span_0 : decode cX7_span 0 = .ok (.aload_n 0, 1) := by decide +kernel
theorem dX7_span_1 : decode cX7_span 1 = .ok (.getfield 10, 3) := by decide +kernel
theorem dX7_span_4 : decode cX7_span 4 = .ok (.invokevirtual 76, 3) := by decide +kernel
theorem dX7_span_7 : decode cX7_span 7 = .ok (.aload_n 0, 1) := by decide +kernel
theorem dX7_span_8 : decode cX7_span 8 = .ok (.getfield 19, 3) := by decide +kernel
theorem dX7_span_11 : decode cX7_span 11 = .ok (.invokevirtual 79, 3) := by decide +kernel
theorem dX7_span_14 : decode cX7_span 14 = .ok (.ifCond .eq 6, 3) := by decide +kernel
theorem dX7_span_17 : decode cX7_span 17 = .ok (.bipush (-3), 2) := by decide +kernel
theorem dX7_span_19 : decode cX7_span 19 = .ok (.ireturn, 1) := by decide +kernel
theorem dX7_span_20 : decode cX7_span 20 = .ok (.iload_n 1, 1) := by decide +kernel
theorem dX7_span_21 : decode cX7_span 21 = .ok (.iload_n 2, 1) := by decide +kernel
theorem dX7_span_22 : decode cX7_span 22 = .ok (.if_icmp .le 13, 3) := by decide +kernel
theorem dX7_span_25 : decode cX7_span 25 = .ok (.aload_n 0, 1) := by decide +kernel
theorem dX7_span_26 : decode cX7_span 26 = .ok (.getfield 10, 3) := by decide +kernel
theorem dX7_span_29 : decode cX7_span 29 = .ok (.iconst 1, 1) := by decide +kernel
theorem dX7_span_30 : decode cX7_span 30 = .ok (.iconst 1, 1) := by decide +kernel
theorem dX7_span_31 : decode cX7_span 31 = .ok (.invokevirtual 96, 3) := by decide +kernel
theorem dX7_span_34 : decode cX7_span 34 = .ok (.ireturn, 1) := by decide +kernel
theorem dX7_span_35 : decode cX7_span 35 = .ok (.aload_n 0, 1) := by decide +kernel
theorem dX7_span_36 : decode cX7_span 36 = .ok (.getfield 19, 3) := by decide +kernel
theorem dX7_span_39 : decode cX7_span 39 = .ok (.new 83, 3) := by decide +kernel
theorem dX7_span_42 : decode cX7_span 42 = .ok (.dup, 1) := by decide +kernel
theorem dX7_span_43 : decode cX7_span 43 = .ok (.iconst 1, 1) := by decide +kernel
theorem dX7_span_44 : decode cX7_span 44 = .ok (.iconst 2, 1) := by decide +kernel
theorem dX7_span_45 : decode cX7_span 45 = .ok (.newarray .long, 2) := by decide +kernel
theorem dX7_span_47 : decode cX7_span 47 = .ok (.dup, 1) := by decide +kernel
theorem dX7_span_48 : decode cX7_span 48 = .ok (.iconst 0, 1) := by decide +kernel
theorem dX7_span_49 : decode cX7_span 49 = .ok (.iload_n 1, 1) := by decide +kernel
theorem dX7_span_50 : decode cX7_span 50 = .ok (.i2l, 1) := by decide +kernel
theorem dX7_span_51 : decode cX7_span 51 = .ok (.lastore, 1) := by decide +kernel
theorem dX7_span_52 : decode cX7_span 52 = .ok (.dup, 1) := by decide +kernel
theorem dX7_span_53 : decode cX7_span 53 = .ok (.iconst 1, 1) := by decide +kernel
theorem dX7_span_54 : decode cX7_span 54 = .ok (.iload_n 2, 1) := by decide +kernel
theorem dX7_span_55 : decode cX7_span 55 = .ok (.i2l, 1) := by decide +kernel
theorem dX7_span_56 : decode cX7_span 56 = .ok (.lastore, 1) := by decide +kernel
theorem dX7_span_57 : decode cX7_span 57 = .ok (.iload_n 1, 1) := by decide +kernel
theorem dX7_span_58 : decode cX7_span 58 = .ok (.iload_n 2, 1) := by decide +kernel
theorem dX7_span_59 : decode cX7_span 59 = .ok (.invokestatic 100, 3) := by decide +kernel
theorem dX7_span_62 : decode cX7_span 62 = .ok (.invokespecial 89, 3) := by decide +kernel
theorem dX7_span_65 : decode cX7_span 65 = .ok (.invokevirtual 92, 3) := by decide +kernel
theorem dX7_span_68 : decode cX7_span 68 = .ok (.ireturn, 1) := by decide +kernel
theorem dX7_wide_0 : decode cX7_wide 0 = .ok (.aload_n 0, 1) := by decide +kernel
theorem dX7_wide_1 : decode cX7_wide 1 = .ok (.getfield 10, 3) := by decide +kernel
theorem dX7_wide_4 : decode cX7_wide 4 = .ok (.invokevirtual 76, 3) := by decide +kernel
theorem dX7_wide_7 : decode cX7_wide 7 = .ok (.aload_n 0, 1) := by decide +kernel
theorem dX7_wide_8 : decode cX7_wide 8 = .ok (.getfield 19, 3) := by decide +kernel
theorem dX7_wide_11 : decode cX7_wide 11 = .ok (.invokevirtual 79, 3) := by decide +kernel
theorem dX7_wide_14 : decode cX7_wide 14 = .ok (.ifCond .eq 6, 3) := by decide +kernel
theorem dX7_wide_17 : decode cX7_wide 17 = .ok (.bipush (-3), 2) := by decide +kernel
theorem dX7_wide_19 : decode cX7_wide 19 = .ok (.ireturn, 1) := by decide +kernel
theorem dX7_wide_20 : decode cX7_wide 20 = .ok (.iload_n 1, 1) := by decide +kernel
theorem dX7_wide_21 : decode cX7_wide 21 = .ok (.iload_n 2, 1) := by decide +kernel
theorem dX7_wide_22 : decode cX7_wide 22 = .ok (.if_icmp .le 13, 3) := by decide +kernel
theorem dX7_wide_25 : decode cX7_wide 25 = .ok (.aload_n 0, 1) := by decide +kernel
theorem dX7_wide_26 : decode cX7_wide 26 = .ok (.getfield 10, 3) := by decide +kernel
theorem dX7_wide_29 : decode cX7_wide 29 = .ok (.iconst 1, 1) := by decide +kernel
theorem dX7_wide_30 : decode cX7_wide 30 = .ok (.iconst 1, 1) := by decide +kernel
theorem dX7_wide_31 : decode cX7_wide 31 = .ok (.invokevirtual 96, 3) := by decide +kernel
theorem dX7_wide_34 : decode cX7_wide 34 = .ok (.ireturn, 1) := by decide +kernel
theorem dX7_wide_35 : decode cX7_wide 35 = .ok (.iload_n 3, 1) := by decide +kernel
theorem dX7_wide_36 : decode cX7_wide 36 = .ok (.ifCond .ne 14, 3) := by decide +kernel
theorem dX7_wide_39 : decode cX7_wide 39 = .ok (.aload_n 0, 1) := by decide +kernel
theorem dX7_wide_40 : decode cX7_wide 40 = .ok (.getfield 10, 3) := by decide +kernel
theorem dX7_wide_43 : decode cX7_wide 43 = .ok (.bipush 6, 2) := by decide +kernel
theorem dX7_wide_45 : decode cX7_wide 45 = .ok (.iconst 2, 1) := by decide +kernel
theorem dX7_wide_46 : decode cX7_wide 46 = .ok (.invokevirtual 104, 3) := by decide +kernel
theorem dX7_wide_49 : decode cX7_wide 49 = .ok (.ireturn, 1) := by decide +kernel
theorem dX7_wide_50 : decode cX7_wide 50 = .ok (.iload_n 2, 1) := by decide +kernel
theorem dX7_wide_51 : decode cX7_wide 51 = .ok (.iload_n 1, 1) := by decide +kernel
theorem dX7_wide_52 : decode cX7_wide 52 = .ok (.isub, 1) := by decide +kernel
theorem dX7_wide_53 : decode cX7_wide 53 = .ok (.iload_n 3, 1) := by decide +kernel
theorem dX7_wide_54 : decode cX7_wide 54 = .ok (.irem, 1) := by decide +kernel
theorem dX7_wide_55 : decode cX7_wide 55 = .ok (.ifCond .eq 13, 3) := by decide +kernel
theorem dX7_wide_58 : decode cX7_wide 58 = .ok (.aload_n 0, 1) := by decide +kernel
theorem dX7_wide_59 : decode cX7_wide 59 = .ok (.getfield 10, 3) := by decide +kernel
theorem dX7_wide_62 : decode cX7_wide 62 = .ok (.iconst 2, 1) := by decide +kernel
theorem dX7_wide_63 : decode cX7_wide 63 = .ok (.iconst 2, 1) := by decide +kernel
theorem dX7_wide_64 : decode cX7_wide 64 = .ok (.invokevirtual 96, 3) := by decide +kernel
theorem dX7_wide_67 : decode cX7_wide 67 = .ok (.ireturn, 1) := by decide +kernel
theorem dX7_wide_68 : decode cX7_wide 68 = .ok (.iload_n 1, 1) := by decide +kernel
theorem dX7_wide_69 : decode cX7_wide 69 = .ok (.iload_n 2, 1) := by decide +kernel
theorem dX7_wide_70 : decode cX7_wide 70 = .ok (.invokestatic 100, 3) := by decide +kernel
theorem dX7_wide_73 : decode cX7_wide 73 = .ok (.iload_n 3, 1) := by decide +kernel
theorem dX7_wide_74 : decode cX7_wide 74 = .ok (.i2l, 1) := by decide +kernel
theorem dX7_wide_75 : decode cX7_wide 75 = .ok (.invokestatic 107, 3) := by decide +kernel
theorem dX7_wide_78 : decode cX7_wide 78 = .ok (.ldiv, 1) := by decide +kernel
theorem dX7_wide_79 : decode cX7_wide 79 = .ok (.lconst 1, 1) := by decide +kernel
theorem dX7_wide_80 : decode cX7_wide 80 = .ok (.ladd, 1) := by decide +kernel
theorem dX7_wide_81 : decode cX7_wide 81 = .ok (.lstore 4, 2) := by decide +kernel
theorem dX7_wide_83 : decode cX7_wide 83 = .ok (.aload_n 0, 1) := by decide +kernel
theorem dX7_wide_84 : decode cX7_wide 84 = .ok (.getfield 19, 3) := by decide +kernel
theorem dX7_wide_87 : decode cX7_wide 87 = .ok (.new 83, 3) := by decide +kernel
theorem dX7_wide_90 : decode cX7_wide 90 = .ok (.dup, 1) := by decide +kernel
theorem dX7_wide_91 : decode cX7_wide 91 = .ok (.iconst 2, 1) := by decide +kernel
theorem dX7_wide_92 : decode cX7_wide 92 = .ok (.iconst 3, 1) := by decide +kernel
theorem dX7_wide_93 : decode cX7_wide 93 = .ok (.newarray .long, 2) := by decide +kernel
theorem dX7_wide_95 : decode cX7_wide 95 = .ok (.dup, 1) := by decide +kernel
theorem dX7_wide_96 : decode cX7_wide 96 = .ok (.iconst 0, 1) := by decide +kernel
theorem dX7_wide_97 : decode cX7_wide 97 = .ok (.iload_n 1, 1) := by decide +kernel
theorem dX7_wide_98 : decode cX7_wide 98 = .ok (.i2l, 1) := by decide +kernel
theorem dX7_wide_99 : decode cX7_wide 99 = .ok (.lastore, 1) := by decide +kernel
theorem dX7_wide_100 : decode cX7_wide 100 = .ok (.dup, 1) := by decide +kernel
theorem dX7_wide_101 : decode cX7_wide 101 = .ok (.iconst 1, 1) := by decide +kernel
theorem dX7_wide_102 : decode cX7_wide 102 = .ok (.iload_n 2, 1) := by decide +kernel
theorem dX7_wide_103 : decode cX7_wide 103 = .ok (.i2l, 1) := by decide +kernel
theorem dX7_wide_104 : decode cX7_wide 104 = .ok (.lastore, 1) := by decide +kernel
theorem dX7_wide_105 : decode cX7_wide 105 = .ok (.dup, 1) := by decide +kernel
theorem dX7_wide_106 : decode cX7_wide 106 = .ok (.iconst 2, 1) := by decide +kernel
theorem dX7_wide_107 : decode cX7_wide 107 = .ok (.iload_n 3, 1) := by decide +kernel
theorem dX7_wide_108 : decode cX7_wide 108 = .ok (.i2l, 1) := by decide +kernel
theorem dX7_wide_109 : decode cX7_wide 109 = .ok (.lastore, 1) := by decide +kernel
theorem dX7_wide_110 : decode cX7_wide 110 = .ok (.lload 4, 2) := by decide +kernel
theorem dX7_wide_112 : decode cX7_wide 112 = .ok (.invokespecial 89, 3) := by decide +kernel
theorem dX7_wide_115 : decode cX7_wide 115 = .ok (.invokevirtual 92, 3) := by decide +kernel
theorem dX7_wide_118 : decode cX7_wide 118 = .ok (.ireturn, 1) := by decide +kernel
theorem dX7_share_0 : decode cX7_share 0 = .ok (.aload_n 0, 1) := by decide +kernel
theorem dX7_share_1 : decode cX7_share 1 = .ok (.getfield 10, 3) := by decide +kernel
theorem dX7_share_4 : decode cX7_share 4 = .ok (.invokevirtual 76, 3) := by decide +kernel
theorem dX7_share_7 : decode cX7_share 7 = .ok (.aload_n 0, 1) := by decide +kernel
theorem dX7_share_8 : decode cX7_share 8 = .ok (.getfield 19, 3) := by decide +kernel
theorem dX7_share_11 : decode cX7_share 11 = .ok (.invokevirtual 79, 3) := by decide +kernel
theorem dX7_share_14 : decode cX7_share 14 = .ok (.ifCond .eq 6, 3) := by decide +kernel
theorem dX7_share_17 : decode cX7_share 17 = .ok (.bipush (-3), 2) := by decide +kernel
theorem dX7_share_19 : decode cX7_share 19 = .ok (.ireturn, 1) := by decide +kernel
theorem dX7_share_20 : decode cX7_share 20 = .ok (.lload_n 3, 1) := by decide +kernel
theorem dX7_share_21 : decode cX7_share 21 = .ok (.lconst 0, 1) := by decide +kernel
theorem dX7_share_22 : decode cX7_share 22 = .ok (.lcmp, 1) := by decide +kernel
theorem dX7_share_23 : decode cX7_share 23 = .ok (.ifCond .ne 14, 3) := by decide +kernel
theorem dX7_share_26 : decode cX7_share 26 = .ok (.aload_n 0, 1) := by decide +kernel
theorem dX7_share_27 : decode cX7_share 27 = .ok (.getfield 10, 3) := by decide +kernel
theorem dX7_share_30 : decode cX7_share 30 = .ok (.bipush 6, 2) := by decide +kernel
theorem dX7_share_32 : decode cX7_share 32 = .ok (.iconst 1, 1) := by decide +kernel
theorem dX7_share_33 : decode cX7_share 33 = .ok (.invokevirtual 104, 3) := by decide +kernel
theorem dX7_share_36 : decode cX7_share 36 = .ok (.ireturn, 1) := by decide +kernel
theorem dX7_share_37 : decode cX7_share 37 = .ok (.lload_n 1, 1) := by decide +kernel
theorem dX7_share_38 : decode cX7_share 38 = .ok (.lload_n 3, 1) := by decide +kernel
theorem dX7_share_39 : decode cX7_share 39 = .ok (.ldiv, 1) := by decide +kernel
theorem dX7_share_40 : decode cX7_share 40 = .ok (.lstore 5, 2) := by decide +kernel
theorem dX7_share_42 : decode cX7_share 42 = .ok (.aload_n 0, 1) := by decide +kernel
theorem dX7_share_43 : decode cX7_share 43 = .ok (.getfield 19, 3) := by decide +kernel
theorem dX7_share_46 : decode cX7_share 46 = .ok (.new 83, 3) := by decide +kernel
theorem dX7_share_49 : decode cX7_share 49 = .ok (.dup, 1) := by decide +kernel
theorem dX7_share_50 : decode cX7_share 50 = .ok (.iconst 3, 1) := by decide +kernel
theorem dX7_share_51 : decode cX7_share 51 = .ok (.iconst 3, 1) := by decide +kernel
theorem dX7_share_52 : decode cX7_share 52 = .ok (.newarray .long, 2) := by decide +kernel
theorem dX7_share_54 : decode cX7_share 54 = .ok (.dup, 1) := by decide +kernel
theorem dX7_share_55 : decode cX7_share 55 = .ok (.iconst 0, 1) := by decide +kernel
theorem dX7_share_56 : decode cX7_share 56 = .ok (.lload_n 1, 1) := by decide +kernel
theorem dX7_share_57 : decode cX7_share 57 = .ok (.lastore, 1) := by decide +kernel
theorem dX7_share_58 : decode cX7_share 58 = .ok (.dup, 1) := by decide +kernel
theorem dX7_share_59 : decode cX7_share 59 = .ok (.iconst 1, 1) := by decide +kernel
theorem dX7_share_60 : decode cX7_share 60 = .ok (.lload_n 3, 1) := by decide +kernel
theorem dX7_share_61 : decode cX7_share 61 = .ok (.lastore, 1) := by decide +kernel
theorem dX7_share_62 : decode cX7_share 62 = .ok (.dup, 1) := by decide +kernel
theorem dX7_share_63 : decode cX7_share 63 = .ok (.iconst 2, 1) := by decide +kernel
theorem dX7_share_64 : decode cX7_share 64 = .ok (.lload 5, 2) := by decide +kernel
theorem dX7_share_66 : decode cX7_share 66 = .ok (.lastore, 1) := by decide +kernel
theorem dX7_share_67 : decode cX7_share 67 = .ok (.lload 5, 2) := by decide +kernel
theorem dX7_share_69 : decode cX7_share 69 = .ok (.invokespecial 89, 3) := by decide +kernel
theorem dX7_share_72 : decode cX7_share 72 = .ok (.invokevirtual 92, 3) := by decide +kernel
theorem dX7_share_75 : decode cX7_share 75 = .ok (.ireturn, 1) := by decide +kernel
theorem dX7_pair_0 : decode cX7_pair 0 = .ok (.aload_n 0, 1) := by decide +kernel
theorem dX7_pair_1 : decode cX7_pair 1 = .ok (.getfield 10, 3) := by decide +kernel
theorem dX7_pair_4 : decode cX7_pair 4 = .ok (.invokevirtual 76, 3) := by decide +kernel
theorem dX7_pair_7 : decode cX7_pair 7 = .ok (.aload_n 0, 1) := by decide +kernel
theorem dX7_pair_8 : decode cX7_pair 8 = .ok (.getfield 19, 3) := by decide +kernel
theorem dX7_pair_11 : decode cX7_pair 11 = .ok (.iload_n 1, 1) := by decide +kernel
theorem dX7_pair_12 : decode cX7_pair 12 = .ok (.invokevirtual 112, 3) := by decide +kernel
theorem dX7_pair_15 : decode cX7_pair 15 = .ok (.ifCond .eq 14, 3) := by decide +kernel
theorem dX7_pair_18 : decode cX7_pair 18 = .ok (.aload_n 0, 1) := by decide +kernel
theorem dX7_pair_19 : decode cX7_pair 19 = .ok (.getfield 19, 3) := by decide +kernel
theorem dX7_pair_22 : decode cX7_pair 22 = .ok (.iload_n 2, 1) := by decide +kernel
theorem dX7_pair_23 : decode cX7_pair 23 = .ok (.invokevirtual 112, 3) := by decide +kernel
theorem dX7_pair_26 : decode cX7_pair 26 = .ok (.ifCond .ne 6, 3) := by decide +kernel
theorem dX7_pair_29 : decode cX7_pair 29 = .ok (.bipush (-2), 2) := by decide +kernel
theorem dX7_pair_31 : decode cX7_pair 31 = .ok (.ireturn, 1) := by decide +kernel
theorem dX7_pair_32 : decode cX7_pair 32 = .ok (.aload_n 0, 1) := by decide +kernel
theorem dX7_pair_33 : decode cX7_pair 33 = .ok (.getfield 19, 3) := by decide +kernel
theorem dX7_pair_36 : decode cX7_pair 36 = .ok (.invokevirtual 79, 3) := by decide +kernel
theorem dX7_pair_39 : decode cX7_pair 39 = .ok (.ifCond .eq 6, 3) := by decide +kernel
theorem dX7_pair_42 : decode cX7_pair 42 = .ok (.bipush (-3), 2) := by decide +kernel
theorem dX7_pair_44 : decode cX7_pair 44 = .ok (.ireturn, 1) := by decide +kernel
theorem dX7_pair_45 : decode cX7_pair 45 = .ok (.iload_n 1, 1) := by decide +kernel
theorem dX7_pair_46 : decode cX7_pair 46 = .ok (.iconst (-1), 1) := by decide +kernel
theorem dX7_pair_47 : decode cX7_pair 47 = .ok (.if_icmp .ne 13, 3) := by decide +kernel
theorem dX7_pair_50 : decode cX7_pair 50 = .ok (.aload_n 0, 1) := by decide +kernel
theorem dX7_pair_51 : decode cX7_pair 51 = .ok (.getfield 10, 3) := by decide +kernel
theorem dX7_pair_54 : decode cX7_pair 54 = .ok (.iconst 1, 1) := by decide +kernel
theorem dX7_pair_55 : decode cX7_pair 55 = .ok (.iconst 0, 1) := by decide +kernel
theorem dX7_pair_56 : decode cX7_pair 56 = .ok (.invokevirtual 104, 3) := by decide +kernel
theorem dX7_pair_59 : decode cX7_pair 59 = .ok (.ireturn, 1) := by decide +kernel
theorem dX7_pair_60 : decode cX7_pair 60 = .ok (.aload_n 0, 1) := by decide +kernel
theorem dX7_pair_61 : decode cX7_pair 61 = .ok (.getfield 19, 3) := by decide +kernel
theorem dX7_pair_64 : decode cX7_pair 64 = .ok (.new 83, 3) := by decide +kernel
theorem dX7_pair_67 : decode cX7_pair 67 = .ok (.dup, 1) := by decide +kernel
theorem dX7_pair_68 : decode cX7_pair 68 = .ok (.iconst 4, 1) := by decide +kernel
theorem dX7_pair_69 : decode cX7_pair 69 = .ok (.iconst 2, 1) := by decide +kernel
theorem dX7_pair_70 : decode cX7_pair 70 = .ok (.newarray .long, 2) := by decide +kernel
theorem dX7_pair_72 : decode cX7_pair 72 = .ok (.dup, 1) := by decide +kernel
theorem dX7_pair_73 : decode cX7_pair 73 = .ok (.iconst 0, 1) := by decide +kernel
theorem dX7_pair_74 : decode cX7_pair 74 = .ok (.iload_n 1, 1) := by decide +kernel
theorem dX7_pair_75 : decode cX7_pair 75 = .ok (.i2l, 1) := by decide +kernel
theorem dX7_pair_76 : decode cX7_pair 76 = .ok (.lastore, 1) := by decide +kernel
theorem dX7_pair_77 : decode cX7_pair 77 = .ok (.dup, 1) := by decide +kernel
theorem dX7_pair_78 : decode cX7_pair 78 = .ok (.iconst 1, 1) := by decide +kernel
theorem dX7_pair_79 : decode cX7_pair 79 = .ok (.iload_n 2, 1) := by decide +kernel
theorem dX7_pair_80 : decode cX7_pair 80 = .ok (.i2l, 1) := by decide +kernel
theorem dX7_pair_81 : decode cX7_pair 81 = .ok (.lastore, 1) := by decide +kernel
theorem dX7_pair_82 : decode cX7_pair 82 = .ok (.lconst 0, 1) := by decide +kernel
theorem dX7_pair_83 : decode cX7_pair 83 = .ok (.invokespecial 89, 3) := by decide +kernel
theorem dX7_pair_86 : decode cX7_pair 86 = .ok (.invokevirtual 92, 3) := by decide +kernel
theorem dX7_pair_89 : decode cX7_pair 89 = .ok (.ireturn, 1) := by decide +kernel
theorem dX7_row_0 : decode cX7_row 0 = .ok (.aload_n 0, 1) := by decide +kernel
theorem dX7_row_1 : decode cX7_row 1 = .ok (.getfield 10, 3) := by decide +kernel
theorem dX7_row_4 : decode cX7_row 4 = .ok (.invokevirtual 76, 3) := by decide +kernel
theorem dX7_row_7 : decode cX7_row 7 = .ok (.iload_n 1, 1) := by decide +kernel
theorem dX7_row_8 : decode cX7_row 8 = .ok (.bipush 12, 2) := by decide +kernel
theorem dX7_row_10 : decode cX7_row 10 = .ok (.if_icmp .le 6, 3) := by decide +kernel
theorem dX7_row_13 : decode cX7_row 13 = .ok (.bipush (-2), 2) := by decide +kernel
theorem dX7_row_15 : decode cX7_row 15 = .ok (.ireturn, 1) := by decide +kernel
theorem dX7_row_16 : decode cX7_row 16 = .ok (.aload_n 0, 1) := by decide +kernel
theorem dX7_row_17 : decode cX7_row 17 = .ok (.getfield 19, 3) := by decide +kernel
theorem dX7_row_20 : decode cX7_row 20 = .ok (.invokevirtual 79, 3) := by decide +kernel
theorem dX7_row_23 : decode cX7_row 23 = .ok (.ifCond .eq 6, 3) := by decide +kernel
theorem dX7_row_26 : decode cX7_row 26 = .ok (.bipush (-3), 2) := by decide +kernel
theorem dX7_row_28 : decode cX7_row 28 = .ok (.ireturn, 1) := by decide +kernel
theorem dX7_row_29 : decode cX7_row 29 = .ok (.iload_n 1, 1) := by decide +kernel
theorem dX7_row_30 : decode cX7_row 30 = .ok (.ifCond .ge 13, 3) := by decide +kernel
theorem dX7_row_33 : decode cX7_row 33 = .ok (.aload_n 0, 1) := by decide +kernel
theorem dX7_row_34 : decode cX7_row 34 = .ok (.getfield 10, 3) := by decide +kernel
theorem dX7_row_37 : decode cX7_row 37 = .ok (.iconst 5, 1) := by decide +kernel
theorem dX7_row_38 : decode cX7_row 38 = .ok (.iconst 0, 1) := by decide +kernel
theorem dX7_row_39 : decode cX7_row 39 = .ok (.invokevirtual 104, 3) := by decide +kernel
theorem dX7_row_42 : decode cX7_row 42 = .ok (.ireturn, 1) := by decide +kernel
theorem dX7_row_43 : decode cX7_row 43 = .ok (.iload_n 2, 1) := by decide +kernel
theorem dX7_row_44 : decode cX7_row 44 = .ok (.ifCond .lt 8, 3) := by decide +kernel
theorem dX7_row_47 : decode cX7_row 47 = .ok (.iload_n 2, 1) := by decide +kernel
theorem dX7_row_48 : decode cX7_row 48 = .ok (.iload_n 1, 1) := by decide +kernel
theorem dX7_row_49 : decode cX7_row 49 = .ok (.if_icmp .lt 13, 3) := by decide +kernel
theorem dX7_row_52 : decode cX7_row 52 = .ok (.aload_n 0, 1) := by decide +kernel
theorem dX7_row_53 : decode cX7_row 53 = .ok (.getfield 10, 3) := by decide +kernel
theorem dX7_row_56 : decode cX7_row 56 = .ok (.iconst 2, 1) := by decide +kernel
theorem dX7_row_57 : decode cX7_row 57 = .ok (.iconst 1, 1) := by decide +kernel
theorem dX7_row_58 : decode cX7_row 58 = .ok (.invokevirtual 104, 3) := by decide +kernel
theorem dX7_row_61 : decode cX7_row 61 = .ok (.ireturn, 1) := by decide +kernel
theorem dX7_row_62 : decode cX7_row 62 = .ok (.aload_n 0, 1) := by decide +kernel
theorem dX7_row_63 : decode cX7_row 63 = .ok (.iload_n 2, 1) := by decide +kernel
theorem dX7_row_64 : decode cX7_row 64 = .ok (.invokevirtual 116, 3) := by decide +kernel
theorem dX7_row_67 : decode cX7_row 67 = .ok (.istore_n 3, 1) := by decide +kernel
theorem dX7_row_68 : decode cX7_row 68 = .ok (.aload_n 0, 1) := by decide +kernel
theorem dX7_row_69 : decode cX7_row 69 = .ok (.getfield 19, 3) := by decide +kernel
theorem dX7_row_72 : decode cX7_row 72 = .ok (.new 83, 3) := by decide +kernel
theorem dX7_row_75 : decode cX7_row 75 = .ok (.dup, 1) := by decide +kernel
theorem dX7_row_76 : decode cX7_row 76 = .ok (.iconst 5, 1) := by decide +kernel
theorem dX7_row_77 : decode cX7_row 77 = .ok (.aload_n 0, 1) := by decide +kernel
theorem dX7_row_78 : decode cX7_row 78 = .ok (.iload_n 1, 1) := by decide +kernel
theorem dX7_row_79 : decode cX7_row 79 = .ok (.iload_n 2, 1) := by decide +kernel
theorem dX7_row_80 : decode cX7_row 80 = .ok (.iload_n 3, 1) := by decide +kernel
theorem dX7_row_81 : decode cX7_row 81 = .ok (.invokevirtual 120, 3) := by decide +kernel
theorem dX7_row_84 : decode cX7_row 84 = .ok (.iload_n 3, 1) := by decide +kernel
theorem dX7_row_85 : decode cX7_row 85 = .ok (.i2l, 1) := by decide +kernel
theorem dX7_row_86 : decode cX7_row 86 = .ok (.invokespecial 89, 3) := by decide +kernel
theorem dX7_row_89 : decode cX7_row 89 = .ok (.invokevirtual 92, 3) := by decide +kernel
theorem dX7_row_92 : decode cX7_row 92 = .ok (.ireturn, 1) := by decide +kernel
theorem dX7_shelf_0 : decode cX7_shelf 0 = .ok (.aload_n 0, 1) := by decide +kernel
theorem dX7_shelf_1 : decode cX7_shelf 1 = .ok (.getfield 10, 3) := by decide +kernel
theorem dX7_shelf_4 : decode cX7_shelf 4 = .ok (.invokevirtual 76, 3) := by decide +kernel
theorem dX7_shelf_7 : decode cX7_shelf 7 = .ok (.iload_n 2, 1) := by decide +kernel
theorem dX7_shelf_8 : decode cX7_shelf 8 = .ok (.bipush 12, 2) := by decide +kernel
theorem dX7_shelf_10 : decode cX7_shelf 10 = .ok (.if_icmp .le 6, 3) := by decide +kernel
theorem dX7_shelf_13 : decode cX7_shelf 13 = .ok (.bipush (-2), 2) := by decide +kernel
theorem dX7_shelf_15 : decode cX7_shelf 15 = .ok (.ireturn, 1) := by decide +kernel
theorem dX7_shelf_16 : decode cX7_shelf 16 = .ok (.aload_n 0, 1) := by decide +kernel
theorem dX7_shelf_17 : decode cX7_shelf 17 = .ok (.getfield 19, 3) := by decide +kernel
theorem dX7_shelf_20 : decode cX7_shelf 20 = .ok (.invokevirtual 79, 3) := by decide +kernel
theorem dX7_shelf_23 : decode cX7_shelf 23 = .ok (.ifCond .eq 6, 3) := by decide +kernel
theorem dX7_shelf_26 : decode cX7_shelf 26 = .ok (.bipush (-3), 2) := by decide +kernel
theorem dX7_shelf_28 : decode cX7_shelf 28 = .ok (.ireturn, 1) := by decide +kernel
theorem dX7_shelf_29 : decode cX7_shelf 29 = .ok (.iload_n 2, 1) := by decide +kernel
theorem dX7_shelf_30 : decode cX7_shelf 30 = .ok (.ifCond .ge 13, 3) := by decide +kernel
theorem dX7_shelf_33 : decode cX7_shelf 33 = .ok (.aload_n 0, 1) := by decide +kernel
theorem dX7_shelf_34 : decode cX7_shelf 34 = .ok (.getfield 10, 3) := by decide +kernel
theorem dX7_shelf_37 : decode cX7_shelf 37 = .ok (.iconst 5, 1) := by decide +kernel
theorem dX7_shelf_38 : decode cX7_shelf 38 = .ok (.iconst 0, 1) := by decide +kernel
theorem dX7_shelf_39 : decode cX7_shelf 39 = .ok (.invokevirtual 104, 3) := by decide +kernel
theorem dX7_shelf_42 : decode cX7_shelf 42 = .ok (.ireturn, 1) := by decide +kernel
theorem dX7_shelf_43 : decode cX7_shelf 43 = .ok (.iconst 1, 1) := by decide +kernel
theorem dX7_shelf_44 : decode cX7_shelf 44 = .ok (.iload_n 2, 1) := by decide +kernel
theorem dX7_shelf_45 : decode cX7_shelf 45 = .ok (.iadd, 1) := by decide +kernel
theorem dX7_shelf_46 : decode cX7_shelf 46 = .ok (.newarray .long, 2) := by decide +kernel
theorem dX7_shelf_48 : decode cX7_shelf 48 = .ok (.astore_n 3, 1) := by decide +kernel
theorem dX7_shelf_49 : decode cX7_shelf 49 = .ok (.aload_n 3, 1) := by decide +kernel
theorem dX7_shelf_50 : decode cX7_shelf 50 = .ok (.iconst 0, 1) := by decide +kernel
theorem dX7_shelf_51 : decode cX7_shelf 51 = .ok (.iload_n 2, 1) := by decide +kernel
theorem dX7_shelf_52 : decode cX7_shelf 52 = .ok (.i2l, 1) := by decide +kernel
theorem dX7_shelf_53 : decode cX7_shelf 53 = .ok (.lastore, 1) := by decide +kernel
theorem dX7_shelf_54 : decode cX7_shelf 54 = .ok (.iconst 1, 1) := by decide +kernel
theorem dX7_shelf_55 : decode cX7_shelf 55 = .ok (.istore 4, 2) := by decide +kernel
theorem dX7_shelf_57 : decode cX7_shelf 57 = .ok (.iload 4, 2) := by decide +kernel
theorem dX7_shelf_59 : decode cX7_shelf 59 = .ok (.aload_n 3, 1) := by decide +kernel
theorem dX7_shelf_60 : decode cX7_shelf 60 = .ok (.arraylength, 1) := by decide +kernel
theorem dX7_shelf_61 : decode cX7_shelf 61 = .ok (.if_icmp .ge 16, 3) := by decide +kernel
theorem dX7_shelf_64 : decode cX7_shelf 64 = .ok (.aload_n 3, 1) := by decide +kernel
theorem dX7_shelf_65 : decode cX7_shelf 65 = .ok (.iload 4, 2) := by decide +kernel
theorem dX7_shelf_67 : decode cX7_shelf 67 = .ok (.ldc2_w 124, 3) := by decide +kernel
theorem dX7_shelf_70 : decode cX7_shelf 70 = .ok (.lastore, 1) := by decide +kernel
theorem dX7_shelf_71 : decode cX7_shelf 71 = .ok (.iinc 4 1, 3) := by decide +kernel
theorem dX7_shelf_74 : decode cX7_shelf 74 = .ok (.goto (-17), 3) := by decide +kernel
theorem dX7_shelf_77 : decode cX7_shelf 77 = .ok (.new 83, 3) := by decide +kernel
theorem dX7_shelf_80 : decode cX7_shelf 80 = .ok (.dup, 1) := by decide +kernel
theorem dX7_shelf_81 : decode cX7_shelf 81 = .ok (.bipush 6, 2) := by decide +kernel
theorem dX7_shelf_83 : decode cX7_shelf 83 = .ok (.aload_n 3, 1) := by decide +kernel
theorem dX7_shelf_84 : decode cX7_shelf 84 = .ok (.lconst 0, 1) := by decide +kernel
theorem dX7_shelf_85 : decode cX7_shelf 85 = .ok (.invokespecial 89, 3) := by decide +kernel
theorem dX7_shelf_88 : decode cX7_shelf 88 = .ok (.astore 4, 2) := by decide +kernel
theorem dX7_shelf_90 : decode cX7_shelf 90 = .ok (.aload 4, 2) := by decide +kernel
theorem dX7_shelf_92 : decode cX7_shelf 92 = .ok (.iload_n 1, 1) := by decide +kernel
theorem dX7_shelf_93 : decode cX7_shelf 93 = .ok (.putfield 126, 3) := by decide +kernel
theorem dX7_shelf_96 : decode cX7_shelf 96 = .ok (.aload_n 0, 1) := by decide +kernel
theorem dX7_shelf_97 : decode cX7_shelf 97 = .ok (.getfield 19, 3) := by decide +kernel
theorem dX7_shelf_100 : decode cX7_shelf 100 = .ok (.aload 4, 2) := by decide +kernel
theorem dX7_shelf_102 : decode cX7_shelf 102 = .ok (.invokevirtual 92, 3) := by decide +kernel
theorem dX7_shelf_105 : decode cX7_shelf 105 = .ok (.ireturn, 1) := by decide +kernel
theorem dX7_set_0 : decode cX7_set 0 = .ok (.aload_n 0, 1) := by decide +kernel
theorem dX7_set_1 : decode cX7_set 1 = .ok (.getfield 10, 3) := by decide +kernel
theorem dX7_set_4 : decode cX7_set 4 = .ok (.invokevirtual 76, 3) := by decide +kernel
theorem dX7_set_7 : decode cX7_set 7 = .ok (.aload_n 0, 1) := by decide +kernel
theorem dX7_set_8 : decode cX7_set 8 = .ok (.getfield 19, 3) := by decide +kernel
theorem dX7_set_11 : decode cX7_set 11 = .ok (.iload_n 1, 1) := by decide +kernel
theorem dX7_set_12 : decode cX7_set 12 = .ok (.i2l, 1) := by decide +kernel
theorem dX7_set_13 : decode cX7_set 13 = .ok (.invokevirtual 130, 3) := by decide +kernel
theorem dX7_set_16 : decode cX7_set 16 = .ok (.astore 4, 2) := by decide +kernel
theorem dX7_set_18 : decode cX7_set 18 = .ok (.aload_n 0, 1) := by decide +kernel
theorem dX7_set_19 : decode cX7_set 19 = .ok (.getfield 19, 3) := by decide +kernel
theorem dX7_set_22 : decode cX7_set 22 = .ok (.iload_n 3, 1) := by decide +kernel
theorem dX7_set_23 : decode cX7_set 23 = .ok (.i2l, 1) := by decide +kernel
theorem dX7_set_24 : decode cX7_set 24 = .ok (.invokevirtual 130, 3) := by decide +kernel
theorem dX7_set_27 : decode cX7_set 27 = .ok (.astore 5, 2) := by decide +kernel
theorem dX7_set_29 : decode cX7_set 29 = .ok (.aload 4, 2) := by decide +kernel
theorem dX7_set_31 : decode cX7_set 31 = .ok (.ifnull 14, 3) := by decide +kernel
theorem dX7_set_34 : decode cX7_set 34 = .ok (.aload_n 0, 1) := by decide +kernel
theorem dX7_set_35 : decode cX7_set 35 = .ok (.getfield 19, 3) := by decide +kernel
theorem dX7_set_38 : decode cX7_set 38 = .ok (.iload_n 3, 1) := by decide +kernel
theorem dX7_set_39 : decode cX7_set 39 = .ok (.invokevirtual 112, 3) := by decide +kernel
theorem dX7_set_42 : decode cX7_set 42 = .ok (.ifCond .ne 6, 3) := by decide +kernel
theorem dX7_set_45 : decode cX7_set 45 = .ok (.bipush (-2), 2) := by decide +kernel
theorem dX7_set_47 : decode cX7_set 47 = .ok (.ireturn, 1) := by decide +kernel
theorem dX7_set_48 : decode cX7_set 48 = .ok (.aload 4, 2) := by decide +kernel
theorem dX7_set_50 : decode cX7_set 50 = .ok (.getfield 134, 3) := by decide +kernel
theorem dX7_set_53 : decode cX7_set 53 = .ok (.bipush 6, 2) := by decide +kernel
theorem dX7_set_55 : decode cX7_set 55 = .ok (.if_icmp .ne 17, 3) := by decide +kernel
theorem dX7_set_58 : decode cX7_set 58 = .ok (.aload 5, 2) := by decide +kernel
theorem dX7_set_60 : decode cX7_set 60 = .ok (.ifnull 21, 3) := by decide +kernel
theorem dX7_set_63 : decode cX7_set 63 = .ok (.aload 5, 2) := by decide +kernel
theorem dX7_set_65 : decode cX7_set 65 = .ok (.iconst 1, 1) := by decide +kernel
theorem dX7_set_66 : decode cX7_set 66 = .ok (.invokevirtual 137, 3) := by decide +kernel
theorem dX7_set_69 : decode cX7_set 69 = .ok (.ifCond .ne 12, 3) := by decide +kernel
theorem dX7_set_72 : decode cX7_set 72 = .ok (.aload_n 0, 1) := by decide +kernel
theorem dX7_set_73 : decode cX7_set 73 = .ok (.getfield 10, 3) := by decide +kernel
theorem dX7_set_76 : decode cX7_set 76 = .ok (.iconst 3, 1) := by decide +kernel
theorem dX7_set_77 : decode cX7_set 77 = .ok (.invokevirtual 140, 3) := by decide +kernel
theorem dX7_set_80 : decode cX7_set 80 = .ok (.ireturn, 1) := by decide +kernel
theorem dX7_set_81 : decode cX7_set 81 = .ok (.aload 4, 2) := by decide +kernel
theorem dX7_set_83 : decode cX7_set 83 = .ok (.iload_n 2, 1) := by decide +kernel
theorem dX7_set_84 : decode cX7_set 84 = .ok (.invokevirtual 143, 3) := by decide +kernel
theorem dX7_set_87 : decode cX7_set 87 = .ok (.ifCond .ne 12, 3) := by decide +kernel
theorem dX7_set_90 : decode cX7_set 90 = .ok (.aload_n 0, 1) := by decide +kernel
theorem dX7_set_91 : decode cX7_set 91 = .ok (.getfield 10, 3) := by decide +kernel
theorem dX7_set_94 : decode cX7_set 94 = .ok (.iconst 2, 1) := by decide +kernel
theorem dX7_set_95 : decode cX7_set 95 = .ok (.invokevirtual 140, 3) := by decide +kernel
theorem dX7_set_98 : decode cX7_set 98 = .ok (.ireturn, 1) := by decide +kernel
theorem dX7_set_99 : decode cX7_set 99 = .ok (.aload 4, 2) := by decide +kernel
theorem dX7_set_101 : decode cX7_set 101 = .ok (.getfield 126, 3) := by decide +kernel
theorem dX7_set_104 : decode cX7_set 104 = .ok (.ifCond .eq 26, 3) := by decide +kernel
theorem dX7_set_107 : decode cX7_set 107 = .ok (.aload 5, 2) := by decide +kernel
theorem dX7_set_109 : decode cX7_set 109 = .ok (.ifnull 21, 3) := by decide +kernel
theorem dX7_set_112 : decode cX7_set 112 = .ok (.aload 5, 2) := by decide +kernel
theorem dX7_set_114 : decode cX7_set 114 = .ok (.iconst 2, 1) := by decide +kernel
theorem dX7_set_115 : decode cX7_set 115 = .ok (.invokevirtual 137, 3) := by decide +kernel
theorem dX7_set_118 : decode cX7_set 118 = .ok (.ifCond .ne 12, 3) := by decide +kernel
theorem dX7_set_121 : decode cX7_set 121 = .ok (.aload_n 0, 1) := by decide +kernel
theorem dX7_set_122 : decode cX7_set 122 = .ok (.getfield 10, 3) := by decide +kernel
theorem dX7_set_125 : decode cX7_set 125 = .ok (.iconst 4, 1) := by decide +kernel
theorem dX7_set_126 : decode cX7_set 126 = .ok (.invokevirtual 140, 3) := by decide +kernel
theorem dX7_set_129 : decode cX7_set 129 = .ok (.ireturn, 1) := by decide +kernel
theorem dX7_set_130 : decode cX7_set 130 = .ok (.aload 4, 2) := by decide +kernel
theorem dX7_set_132 : decode cX7_set 132 = .ok (.iload_n 2, 1) := by decide +kernel
theorem dX7_set_133 : decode cX7_set 133 = .ok (.iload_n 3, 1) := by decide +kernel
theorem dX7_set_134 : decode cX7_set 134 = .ok (.invokevirtual 146, 3) := by decide +kernel
theorem dX7_set_137 : decode cX7_set 137 = .ok (.iconst 1, 1) := by decide +kernel
theorem dX7_set_138 : decode cX7_set 138 = .ok (.ireturn, 1) := by decide +kernel
theorem dX7_at_0 : decode cX7_at 0 = .ok (.aload_n 0, 1) := by decide +kernel
theorem dX7_at_1 : decode cX7_at 1 = .ok (.getfield 10, 3) := by decide +kernel
theorem dX7_at_4 : decode cX7_at 4 = .ok (.invokevirtual 76, 3) := by decide +kernel
theorem dX7_at_7 : decode cX7_at 7 = .ok (.aload_n 0, 1) := by decide +kernel
theorem dX7_at_8 : decode cX7_at 8 = .ok (.getfield 19, 3) := by decide +kernel
theorem dX7_at_11 : decode cX7_at 11 = .ok (.iload_n 1, 1) := by decide +kernel
theorem dX7_at_12 : decode cX7_at 12 = .ok (.i2l, 1) := by decide +kernel
theorem dX7_at_13 : decode cX7_at 13 = .ok (.invokevirtual 130, 3) := by decide +kernel
theorem dX7_at_16 : decode cX7_at 16 = .ok (.astore_n 3, 1) := by decide +kernel
theorem dX7_at_17 : decode cX7_at 17 = .ok (.aload_n 3, 1) := by decide +kernel
theorem dX7_at_18 : decode cX7_at 18 = .ok (.ifnonnull 6, 3) := by decide +kernel
theorem dX7_at_21 : decode cX7_at 21 = .ok (.bipush (-2), 2) := by decide +kernel
theorem dX7_at_23 : decode cX7_at 23 = .ok (.ireturn, 1) := by decide +kernel
theorem dX7_at_24 : decode cX7_at 24 = .ok (.aload_n 3, 1) := by decide +kernel
theorem dX7_at_25 : decode cX7_at 25 = .ok (.getfield 134, 3) := by decide +kernel
theorem dX7_at_28 : decode cX7_at 28 = .ok (.bipush 6, 2) := by decide +kernel
theorem dX7_at_30 : decode cX7_at 30 = .ok (.if_icmp .eq 12, 3) := by decide +kernel
theorem dX7_at_33 : decode cX7_at 33 = .ok (.aload_n 0, 1) := by decide +kernel
theorem dX7_at_34 : decode cX7_at 34 = .ok (.getfield 10, 3) := by decide +kernel
theorem dX7_at_37 : decode cX7_at 37 = .ok (.iconst 3, 1) := by decide +kernel
theorem dX7_at_38 : decode cX7_at 38 = .ok (.invokevirtual 140, 3) := by decide +kernel
theorem dX7_at_41 : decode cX7_at 41 = .ok (.ireturn, 1) := by decide +kernel
theorem dX7_at_42 : decode cX7_at 42 = .ok (.aload_n 3, 1) := by decide +kernel
theorem dX7_at_43 : decode cX7_at 43 = .ok (.iload_n 2, 1) := by decide +kernel
theorem dX7_at_44 : decode cX7_at 44 = .ok (.invokevirtual 143, 3) := by decide +kernel
theorem dX7_at_47 : decode cX7_at 47 = .ok (.ifCond .ne 12, 3) := by decide +kernel
theorem dX7_at_50 : decode cX7_at 50 = .ok (.aload_n 0, 1) := by decide +kernel
theorem dX7_at_51 : decode cX7_at 51 = .ok (.getfield 10, 3) := by decide +kernel
theorem dX7_at_54 : decode cX7_at 54 = .ok (.iconst 2, 1) := by decide +kernel
theorem dX7_at_55 : decode cX7_at 55 = .ok (.invokevirtual 140, 3) := by decide +kernel
theorem dX7_at_58 : decode cX7_at 58 = .ok (.ireturn, 1) := by decide +kernel
theorem dX7_at_59 : decode cX7_at 59 = .ok (.aload_n 3, 1) := by decide +kernel
theorem dX7_at_60 : decode cX7_at 60 = .ok (.getfield 150, 3) := by decide +kernel
theorem dX7_at_63 : decode cX7_at 63 = .ok (.iconst 1, 1) := by decide +kernel
theorem dX7_at_64 : decode cX7_at 64 = .ok (.iload_n 2, 1) := by decide +kernel
theorem dX7_at_65 : decode cX7_at 65 = .ok (.iadd, 1) := by decide +kernel
theorem dX7_at_66 : decode cX7_at 66 = .ok (.laload, 1) := by decide +kernel
theorem dX7_at_67 : decode cX7_at 67 = .ok (.l2i, 1) := by decide +kernel
theorem dX7_at_68 : decode cX7_at 68 = .ok (.ireturn, 1) := by decide +kernel
theorem dX7_kind_0 : decode cX7_kind 0 = .ok (.aload_n 0, 1) := by decide +kernel
theorem dX7_kind_1 : decode cX7_kind 1 = .ok (.getfield 19, 3) := by decide +kernel
theorem dX7_kind_4 : decode cX7_kind 4 = .ok (.iload_n 1, 1) := by decide +kernel
theorem dX7_kind_5 : decode cX7_kind 5 = .ok (.i2l, 1) := by decide +kernel
theorem dX7_kind_6 : decode cX7_kind 6 = .ok (.invokevirtual 130, 3) := by decide +kernel
theorem dX7_kind_9 : decode cX7_kind 9 = .ok (.astore_n 2, 1) := by decide +kernel
theorem dX7_kind_10 : decode cX7_kind 10 = .ok (.aload_n 2, 1) := by decide +kernel
theorem dX7_kind_11 : decode cX7_kind 11 = .ok (.ifnonnull 8, 3) := by decide +kernel
theorem dX7_kind_14 : decode cX7_kind 14 = .ok (.bipush (-2), 2) := by decide +kernel
theorem dX7_kind_16 : decode cX7_kind 16 = .ok (.goto 7, 3) := by decide +kernel
theorem dX7_kind_19 : decode cX7_kind 19 = .ok (.aload_n 2, 1) := by decide +kernel
theorem dX7_kind_20 : decode cX7_kind 20 = .ok (.getfield 134, 3) := by decide +kernel
theorem dX7_kind_23 : decode cX7_kind 23 = .ok (.ireturn, 1) := by decide +kernel
theorem dX7_parts_0 : decode cX7_parts 0 = .ok (.aload_n 0, 1) := by decide +kernel
theorem dX7_parts_1 : decode cX7_parts 1 = .ok (.getfield 19, 3) := by decide +kernel
theorem dX7_parts_4 : decode cX7_parts 4 = .ok (.iload_n 1, 1) := by decide +kernel
theorem dX7_parts_5 : decode cX7_parts 5 = .ok (.i2l, 1) := by decide +kernel
theorem dX7_parts_6 : decode cX7_parts 6 = .ok (.invokevirtual 130, 3) := by decide +kernel
theorem dX7_parts_9 : decode cX7_parts 9 = .ok (.astore_n 2, 1) := by decide +kernel
theorem dX7_parts_10 : decode cX7_parts 10 = .ok (.aload_n 2, 1) := by decide +kernel
theorem dX7_parts_11 : decode cX7_parts 11 = .ok (.ifnonnull 8, 3) := by decide +kernel
theorem dX7_parts_14 : decode cX7_parts 14 = .ok (.bipush (-2), 2) := by decide +kernel
theorem dX7_parts_16 : decode cX7_parts 16 = .ok (.goto 8, 3) := by decide +kernel
theorem dX7_parts_19 : decode cX7_parts 19 = .ok (.aload_n 2, 1) := by decide +kernel
theorem dX7_parts_20 : decode cX7_parts 20 = .ok (.getfield 150, 3) := by decide +kernel
theorem dX7_parts_23 : decode cX7_parts 23 = .ok (.arraylength, 1) := by decide +kernel
theorem dX7_parts_24 : decode cX7_parts 24 = .ok (.ireturn, 1) := by decide +kernel
theorem dX7_part_0 : decode cX7_part 0 = .ok (.aload_n 0, 1) := by decide +kernel
theorem dX7_part_1 : decode cX7_part 1 = .ok (.getfield 19, 3) := by decide +kernel
theorem dX7_part_4 : decode cX7_part 4 = .ok (.iload_n 1, 1) := by decide +kernel
theorem dX7_part_5 : decode cX7_part 5 = .ok (.i2l, 1) := by decide +kernel
theorem dX7_part_6 : decode cX7_part 6 = .ok (.invokevirtual 130, 3) := by decide +kernel
theorem dX7_part_9 : decode cX7_part 9 = .ok (.astore_n 3, 1) := by decide +kernel
theorem dX7_part_10 : decode cX7_part 10 = .ok (.aload_n 3, 1) := by decide +kernel
theorem dX7_part_11 : decode cX7_part 11 = .ok (.ifnull 16, 3) := by decide +kernel
theorem dX7_part_14 : decode cX7_part 14 = .ok (.iload_n 2, 1) := by decide +kernel
theorem dX7_part_15 : decode cX7_part 15 = .ok (.ifCond .lt 12, 3) := by decide +kernel
theorem dX7_part_18 : decode cX7_part 18 = .ok (.iload_n 2, 1) := by decide +kernel
theorem dX7_part_19 : decode cX7_part 19 = .ok (.aload_n 3, 1) := by decide +kernel
theorem dX7_part_20 : decode cX7_part 20 = .ok (.getfield 150, 3) := by decide +kernel
theorem dX7_part_23 : decode cX7_part 23 = .ok (.arraylength, 1) := by decide +kernel
theorem dX7_part_24 : decode cX7_part 24 = .ok (.if_icmp .lt 7, 3) := by decide +kernel
theorem dX7_part_27 : decode cX7_part 27 = .ok (.ldc2_w 154, 3) := by decide +kernel
theorem dX7_part_30 : decode cX7_part 30 = .ok (.lreturn, 1) := by decide +kernel
theorem dX7_part_31 : decode cX7_part 31 = .ok (.aload_n 3, 1) := by decide +kernel
theorem dX7_part_32 : decode cX7_part 32 = .ok (.getfield 150, 3) := by decide +kernel
theorem dX7_part_35 : decode cX7_part 35 = .ok (.iload_n 2, 1) := by decide +kernel
theorem dX7_part_36 : decode cX7_part 36 = .ok (.laload, 1) := by decide +kernel
theorem dX7_part_37 : decode cX7_part 37 = .ok (.lreturn, 1) := by decide +kernel
theorem dX7_weight_0 : decode cX7_weight 0 = .ok (.aload_n 0, 1) := by decide +kernel
theorem dX7_weight_1 : decode cX7_weight 1 = .ok (.getfield 19, 3) := by decide +kernel
theorem dX7_weight_4 : decode cX7_weight 4 = .ok (.iload_n 1, 1) := by decide +kernel
theorem dX7_weight_5 : decode cX7_weight 5 = .ok (.i2l, 1) := by decide +kernel
theorem dX7_weight_6 : decode cX7_weight 6 = .ok (.invokevirtual 130, 3) := by decide +kernel
theorem dX7_weight_9 : decode cX7_weight 9 = .ok (.astore_n 3, 1) := by decide +kernel
theorem dX7_weight_10 : decode cX7_weight 10 = .ok (.aload_n 3, 1) := by decide +kernel
theorem dX7_weight_11 : decode cX7_weight 11 = .ok (.ifnonnull 7, 3) := by decide +kernel
theorem dX7_weight_14 : decode cX7_weight 14 = .ok (.ldc2_w 154, 3) := by decide +kernel
theorem dX7_weight_17 : decode cX7_weight 17 = .ok (.lreturn, 1) := by decide +kernel
theorem dX7_weight_18 : decode cX7_weight 18 = .ok (.aload_n 0, 1) := by decide +kernel
theorem dX7_weight_19 : decode cX7_weight 19 = .ok (.getfield 19, 3) := by decide +kernel
theorem dX7_weight_22 : decode cX7_weight 22 = .ok (.invokevirtual 156, 3) := by decide +kernel
theorem dX7_weight_25 : decode cX7_weight 25 = .ok (.iload_n 2, 1) := by decide +kernel
theorem dX7_weight_26 : decode cX7_weight 26 = .ok (.ifCond .eq 10, 3) := by decide +kernel
theorem dX7_weight_29 : decode cX7_weight 29 = .ok (.aload_n 3, 1) := by decide +kernel
theorem dX7_weight_30 : decode cX7_weight 30 = .ok (.invokevirtual 159, 3) := by decide +kernel
theorem dX7_weight_33 : decode cX7_weight 33 = .ok (.goto 7, 3) := by decide +kernel
theorem dX7_weight_36 : decode cX7_weight 36 = .ok (.aload_n 3, 1) := by decide +kernel
theorem dX7_weight_37 : decode cX7_weight 37 = .ok (.getfield 163, 3) := by decide +kernel
theorem dX7_weight_40 : decode cX7_weight 40 = .ok (.lreturn, 1) := by decide +kernel
theorem dX7_equal_0 : decode cX7_equal 0 = .ok (.aload_n 0, 1) := by decide +kernel
theorem dX7_equal_1 : decode cX7_equal 1 = .ok (.getfield 19, 3) := by decide +kernel
theorem dX7_equal_4 : decode cX7_equal 4 = .ok (.iload_n 1, 1) := by decide +kernel
theorem dX7_equal_5 : decode cX7_equal 5 = .ok (.i2l, 1) := by decide +kernel
theorem dX7_equal_6 : decode cX7_equal 6 = .ok (.invokevirtual 130, 3) := by decide +kernel
theorem dX7_equal_9 : decode cX7_equal 9 = .ok (.astore_n 3, 1) := by decide +kernel
theorem dX7_equal_10 : decode cX7_equal 10 = .ok (.aload_n 0, 1) := by decide +kernel
theorem dX7_equal_11 : decode cX7_equal 11 = .ok (.getfield 19, 3) := by decide +kernel
theorem dX7_equal_14 : decode cX7_equal 14 = .ok (.iload_n 2, 1) := by decide +kernel
theorem dX7_equal_15 : decode cX7_equal 15 = .ok (.i2l, 1) := by decide +kernel
theorem dX7_equal_16 : decode cX7_equal 16 = .ok (.invokevirtual 130, 3) := by decide +kernel
theorem dX7_equal_19 : decode cX7_equal 19 = .ok (.astore 4, 2) := by decide +kernel
theorem dX7_equal_21 : decode cX7_equal 21 = .ok (.aload_n 3, 1) := by decide +kernel
theorem dX7_equal_22 : decode cX7_equal 22 = .ok (.ifnull 8, 3) := by decide +kernel
theorem dX7_equal_25 : decode cX7_equal 25 = .ok (.aload 4, 2) := by decide +kernel
theorem dX7_equal_27 : decode cX7_equal 27 = .ok (.ifnonnull 6, 3) := by decide +kernel
theorem dX7_equal_30 : decode cX7_equal 30 = .ok (.bipush (-2), 2) := by decide +kernel
theorem dX7_equal_32 : decode cX7_equal 32 = .ok (.ireturn, 1) := by decide +kernel
theorem dX7_equal_33 : decode cX7_equal 33 = .ok (.aload_n 3, 1) := by decide +kernel
theorem dX7_equal_34 : decode cX7_equal 34 = .ok (.aload 4, 2) := by decide +kernel
theorem dX7_equal_36 : decode cX7_equal 36 = .ok (.invokevirtual 166, 3) := by decide +kernel
theorem dX7_equal_39 : decode cX7_equal 39 = .ok (.ifCond .eq 7, 3) := by decide +kernel
theorem dX7_equal_42 : decode cX7_equal 42 = .ok (.iconst 1, 1) := by decide +kernel
theorem dX7_equal_43 : decode cX7_equal 43 = .ok (.goto 4, 3) := by decide +kernel
theorem dX7_equal_46 : decode cX7_equal 46 = .ok (.iconst 0, 1) := by decide +kernel
theorem dX7_equal_47 : decode cX7_equal 47 = .ok (.ireturn, 1) := by decide +kernel
theorem dX7_hash_0 : decode cX7_hash 0 = .ok (.aload_n 0, 1) := by decide +kernel
theorem dX7_hash_1 : decode cX7_hash 1 = .ok (.getfield 19, 3) := by decide +kernel
theorem dX7_hash_4 : decode cX7_hash 4 = .ok (.iload_n 1, 1) := by decide +kernel
theorem dX7_hash_5 : decode cX7_hash 5 = .ok (.i2l, 1) := by decide +kernel
theorem dX7_hash_6 : decode cX7_hash 6 = .ok (.invokevirtual 130, 3) := by decide +kernel
theorem dX7_hash_9 : decode cX7_hash 9 = .ok (.astore_n 2, 1) := by decide +kernel
theorem dX7_hash_10 : decode cX7_hash 10 = .ok (.aload_n 2, 1) := by decide +kernel
theorem dX7_hash_11 : decode cX7_hash 11 = .ok (.ifnonnull 7, 3) := by decide +kernel
theorem dX7_hash_14 : decode cX7_hash 14 = .ok (.iconst 0, 1) := by decide +kernel
theorem dX7_hash_15 : decode cX7_hash 15 = .ok (.goto 7, 3) := by decide +kernel
theorem dX7_hash_18 : decode cX7_hash 18 = .ok (.aload_n 2, 1) := by decide +kernel
theorem dX7_hash_19 : decode cX7_hash 19 = .ok (.getfield 170, 3) := by decide +kernel
theorem dX7_hash_22 : decode cX7_hash 22 = .ok (.ireturn, 1) := by decide +kernel
theorem dX7_order_0 : decode cX7_order 0 = .ok (.aload_n 0, 1) := by decide +kernel
theorem dX7_order_1 : decode cX7_order 1 = .ok (.getfield 19, 3) := by decide +kernel
theorem dX7_order_4 : decode cX7_order 4 = .ok (.iload_n 1, 1) := by decide +kernel
theorem dX7_order_5 : decode cX7_order 5 = .ok (.i2l, 1) := by decide +kernel
theorem dX7_order_6 : decode cX7_order 6 = .ok (.invokevirtual 130, 3) := by decide +kernel
theorem dX7_order_9 : decode cX7_order 9 = .ok (.astore_n 3, 1) := by decide +kernel
theorem dX7_order_10 : decode cX7_order 10 = .ok (.aload_n 0, 1) := by decide +kernel
theorem dX7_order_11 : decode cX7_order 11 = .ok (.getfield 19, 3) := by decide +kernel
theorem dX7_order_14 : decode cX7_order 14 = .ok (.iload_n 2, 1) := by decide +kernel
theorem dX7_order_15 : decode cX7_order 15 = .ok (.i2l, 1) := by decide +kernel
theorem dX7_order_16 : decode cX7_order 16 = .ok (.invokevirtual 130, 3) := by decide +kernel
theorem dX7_order_19 : decode cX7_order 19 = .ok (.astore 4, 2) := by decide +kernel
theorem dX7_order_21 : decode cX7_order 21 = .ok (.aload_n 3, 1) := by decide +kernel
theorem dX7_order_22 : decode cX7_order 22 = .ok (.ifnull 8, 3) := by decide +kernel
theorem dX7_order_25 : decode cX7_order 25 = .ok (.aload 4, 2) := by decide +kernel
theorem dX7_order_27 : decode cX7_order 27 = .ok (.ifnonnull 6, 3) := by decide +kernel
theorem dX7_order_30 : decode cX7_order 30 = .ok (.bipush (-2), 2) := by decide +kernel
theorem dX7_order_32 : decode cX7_order 32 = .ok (.ireturn, 1) := by decide +kernel
theorem dX7_order_33 : decode cX7_order 33 = .ok (.aload_n 3, 1) := by decide +kernel
theorem dX7_order_34 : decode cX7_order 34 = .ok (.getfield 173, 3) := by decide +kernel
theorem dX7_order_37 : decode cX7_order 37 = .ok (.aload 4, 2) := by decide +kernel
theorem dX7_order_39 : decode cX7_order 39 = .ok (.getfield 173, 3) := by decide +kernel
theorem dX7_order_42 : decode cX7_order 42 = .ok (.invokestatic 176, 3) := by decide +kernel
theorem dX7_order_45 : decode cX7_order 45 = .ok (.ireturn, 1) := by decide +kernel
theorem dX7_ranked_0 : decode cX7_ranked 0 = .ok (.iload_n 1, 1) := by decide +kernel
theorem dX7_ranked_1 : decode cX7_ranked 1 = .ok (.ifCond .ge 8, 3) := by decide +kernel
theorem dX7_ranked_4 : decode cX7_ranked 4 = .ok (.bipush (-2), 2) := by decide +kernel
theorem dX7_ranked_6 : decode cX7_ranked 6 = .ok (.goto 11, 3) := by decide +kernel
theorem dX7_ranked_9 : decode cX7_ranked 9 = .ok (.aload_n 0, 1) := by decide +kernel
theorem dX7_ranked_10 : decode cX7_ranked 10 = .ok (.getfield 19, 3) := by decide +kernel
theorem dX7_ranked_13 : decode cX7_ranked 13 = .ok (.iload_n 1, 1) := by decide +kernel
theorem dX7_ranked_14 : decode cX7_ranked 14 = .ok (.invokevirtual 181, 3) := by decide +kernel
theorem dX7_ranked_17 : decode cX7_ranked 17 = .ok (.ireturn, 1) := by decide +kernel
theorem dX7_first_0 : decode cX7_first 0 = .ok (.aload_n 0, 1) := by decide +kernel
theorem dX7_first_1 : decode cX7_first 1 = .ok (.getfield 19, 3) := by decide +kernel
theorem dX7_first_4 : decode cX7_first 4 = .ok (.iload_n 1, 1) := by decide +kernel
theorem dX7_first_5 : decode cX7_first 5 = .ok (.i2l, 1) := by decide +kernel
theorem dX7_first_6 : decode cX7_first 6 = .ok (.invokevirtual 130, 3) := by decide +kernel
theorem dX7_first_9 : decode cX7_first 9 = .ok (.astore_n 2, 1) := by decide +kernel
theorem dX7_first_10 : decode cX7_first 10 = .ok (.aload_n 2, 1) := by decide +kernel
theorem dX7_first_11 : decode cX7_first 11 = .ok (.ifnonnull 8, 3) := by decide +kernel
theorem dX7_first_14 : decode cX7_first 14 = .ok (.bipush (-2), 2) := by decide +kernel
theorem dX7_first_16 : decode cX7_first 16 = .ok (.goto 11, 3) := by decide +kernel
theorem dX7_first_19 : decode cX7_first 19 = .ok (.aload_n 0, 1) := by decide +kernel
theorem dX7_first_20 : decode cX7_first 20 = .ok (.getfield 19, 3) := by decide +kernel
theorem dX7_first_23 : decode cX7_first 23 = .ok (.aload_n 2, 1) := by decide +kernel
theorem dX7_first_24 : decode cX7_first 24 = .ok (.invokevirtual 184, 3) := by decide +kernel
theorem dX7_first_27 : decode cX7_first 27 = .ok (.ireturn, 1) := by decide +kernel
theorem dX7_family_0 : decode cX7_family 0 = .ok (.iconst 4, 1) := by decide +kernel
theorem dX7_family_1 : decode cX7_family 1 = .ok (.newarray .int, 2) := by decide +kernel
theorem dX7_family_3 : decode cX7_family 3 = .ok (.dup, 1) := by decide +kernel
theorem dX7_family_4 : decode cX7_family 4 = .ok (.iconst 0, 1) := by decide +kernel
theorem dX7_family_5 : decode cX7_family 5 = .ok (.iload_n 1, 1) := by decide +kernel
theorem dX7_family_6 : decode cX7_family 6 = .ok (.iastore, 1) := by decide +kernel
theorem dX7_family_7 : decode cX7_family 7 = .ok (.dup, 1) := by decide +kernel
theorem dX7_family_8 : decode cX7_family 8 = .ok (.iconst 1, 1) := by decide +kernel
theorem dX7_family_9 : decode cX7_family 9 = .ok (.iload_n 2, 1) := by decide +kernel
theorem dX7_family_10 : decode cX7_family 10 = .ok (.iastore, 1) := by decide +kernel
theorem dX7_family_11 : decode cX7_family 11 = .ok (.dup, 1) := by decide +kernel
theorem dX7_family_12 : decode cX7_family 12 = .ok (.iconst 2, 1) := by decide +kernel
theorem dX7_family_13 : decode cX7_family 13 = .ok (.iload_n 3, 1) := by decide +kernel
theorem dX7_family_14 : decode cX7_family 14 = .ok (.iastore, 1) := by decide +kernel
theorem dX7_family_15 : decode cX7_family 15 = .ok (.dup, 1) := by decide +kernel
theorem dX7_family_16 : decode cX7_family 16 = .ok (.iconst 3, 1) := by decide +kernel
theorem dX7_family_17 : decode cX7_family 17 = .ok (.iload 4, 2) := by decide +kernel
theorem dX7_family_19 : decode cX7_family 19 = .ok (.iastore, 1) := by decide +kernel
theorem dX7_family_20 : decode cX7_family 20 = .ok (.astore 5, 2) := by decide +kernel
theorem dX7_family_22 : decode cX7_family 22 = .ok (.aload 5, 2) := by decide +kernel
theorem dX7_family_24 : decode cX7_family 24 = .ok (.invokestatic 187, 3) := by decide +kernel
theorem dX7_family_27 : decode cX7_family 27 = .ok (.ifCond .ne 6, 3) := by decide +kernel
theorem dX7_family_30 : decode cX7_family 30 = .ok (.bipush (-2), 2) := by decide +kernel
theorem dX7_family_32 : decode cX7_family 32 = .ok (.ireturn, 1) := by decide +kernel
theorem dX7_family_33 : decode cX7_family 33 = .ok (.aload_n 0, 1) := by decide +kernel
theorem dX7_family_34 : decode cX7_family 34 = .ok (.getfield 37, 3) := by decide +kernel
theorem dX7_family_37 : decode cX7_family 37 = .ok (.bipush 6, 2) := by decide +kernel
theorem dX7_family_39 : decode cX7_family 39 = .ok (.if_icmp .lt 6, 3) := by decide +kernel
theorem dX7_family_42 : decode cX7_family 42 = .ok (.bipush (-3), 2) := by decide +kernel
theorem dX7_family_44 : decode cX7_family 44 = .ok (.ireturn, 1) := by decide +kernel
theorem dX7_family_45 : decode cX7_family 45 = .ok (.aload_n 0, 1) := by decide +kernel
theorem dX7_family_46 : decode cX7_family 46 = .ok (.getfield 33, 3) := by decide +kernel
theorem dX7_family_49 : decode cX7_family 49 = .ok (.aload_n 0, 1) := by decide +kernel
theorem dX7_family_50 : decode cX7_family 50 = .ok (.getfield 37, 3) := by decide +kernel
theorem dX7_family_53 : decode cX7_family 53 = .ok (.new 31, 3) := by decide +kernel
theorem dX7_family_56 : decode cX7_family 56 = .ok (.dup, 1) := by decide +kernel
theorem dX7_family_57 : decode cX7_family 57 = .ok (.aload 5, 2) := by decide +kernel
theorem dX7_family_59 : decode cX7_family 59 = .ok (.invokespecial 191, 3) := by decide +kernel
theorem dX7_family_62 : decode cX7_family 62 = .ok (.aastore, 1) := by decide +kernel
theorem dX7_family_63 : decode cX7_family 63 = .ok (.aload_n 0, 1) := by decide +kernel
theorem dX7_family_64 : decode cX7_family 64 = .ok (.dup, 1) := by decide +kernel
theorem dX7_family_65 : decode cX7_family 65 = .ok (.getfield 37, 3) := by decide +kernel
theorem dX7_family_68 : decode cX7_family 68 = .ok (.iconst 1, 1) := by decide +kernel
theorem dX7_family_69 : decode cX7_family 69 = .ok (.iadd, 1) := by decide +kernel
theorem dX7_family_70 : decode cX7_family 70 = .ok (.putfield 37, 3) := by decide +kernel
theorem dX7_family_73 : decode cX7_family 73 = .ok (.aload_n 0, 1) := by decide +kernel
theorem dX7_family_74 : decode cX7_family 74 = .ok (.getfield 37, 3) := by decide +kernel
theorem dX7_family_77 : decode cX7_family 77 = .ok (.iconst 1, 1) := by decide +kernel
theorem dX7_family_78 : decode cX7_family 78 = .ok (.isub, 1) := by decide +kernel
theorem dX7_family_79 : decode cX7_family 79 = .ok (.ireturn, 1) := by decide +kernel
theorem dX7_tag_0 : decode cX7_tag 0 = .ok (.aload_n 0, 1) := by decide +kernel
theorem dX7_tag_1 : decode cX7_tag 1 = .ok (.iload_n 1, 1) := by decide +kernel
theorem dX7_tag_2 : decode cX7_tag 2 = .ok (.invokevirtual 194, 3) := by decide +kernel
theorem dX7_tag_5 : decode cX7_tag 5 = .ok (.astore_n 3, 1) := by decide +kernel
theorem dX7_tag_6 : decode cX7_tag 6 = .ok (.aload_n 0, 1) := by decide +kernel
theorem dX7_tag_7 : decode cX7_tag 7 = .ok (.getfield 19, 3) := by decide +kernel
theorem dX7_tag_10 : decode cX7_tag 10 = .ok (.iload_n 2, 1) := by decide +kernel
theorem dX7_tag_11 : decode cX7_tag 11 = .ok (.i2l, 1) := by decide +kernel
theorem dX7_tag_12 : decode cX7_tag 12 = .ok (.invokevirtual 130, 3) := by decide +kernel
theorem dX7_tag_15 : decode cX7_tag 15 = .ok (.astore 4, 2) := by decide +kernel
theorem dX7_tag_17 : decode cX7_tag 17 = .ok (.aload_n 3, 1) := by decide +kernel
theorem dX7_tag_18 : decode cX7_tag 18 = .ok (.ifnull 8, 3) := by decide +kernel
theorem dX7_tag_21 : decode cX7_tag 21 = .ok (.aload 4, 2) := by decide +kernel
theorem dX7_tag_23 : decode cX7_tag 23 = .ok (.ifnonnull 6, 3) := by decide +kernel
theorem dX7_tag_26 : decode cX7_tag 26 = .ok (.bipush (-2), 2) := by decide +kernel
theorem dX7_tag_28 : decode cX7_tag 28 = .ok (.ireturn, 1) := by decide +kernel
theorem dX7_tag_29 : decode cX7_tag 29 = .ok (.aload_n 3, 1) := by decide +kernel
theorem dX7_tag_30 : decode cX7_tag 30 = .ok (.aload 4, 2) := by decide +kernel
theorem dX7_tag_32 : decode cX7_tag 32 = .ok (.invokevirtual 198, 3) := by decide +kernel
theorem dX7_tag_35 : decode cX7_tag 35 = .ok (.ireturn, 1) := by decide +kernel
theorem dX7_tagged_0 : decode cX7_tagged 0 = .ok (.aload_n 0, 1) := by decide +kernel
theorem dX7_tagged_1 : decode cX7_tagged 1 = .ok (.iload_n 1, 1) := by decide +kernel
theorem dX7_tagged_2 : decode cX7_tagged 2 = .ok (.invokevirtual 194, 3) := by decide +kernel
theorem dX7_tagged_5 : decode cX7_tagged 5 = .ok (.astore_n 3, 1) := by decide +kernel
theorem dX7_tagged_6 : decode cX7_tagged 6 = .ok (.aload_n 3, 1) := by decide +kernel
theorem dX7_tagged_7 : decode cX7_tagged 7 = .ok (.ifnull 13, 3) := by decide +kernel
theorem dX7_tagged_10 : decode cX7_tagged 10 = .ok (.iload_n 2, 1) := by decide +kernel
theorem dX7_tagged_11 : decode cX7_tagged 11 = .ok (.iconst (-1), 1) := by decide +kernel
theorem dX7_tagged_12 : decode cX7_tagged 12 = .ok (.if_icmp .lt 8, 3) := by decide +kernel
theorem dX7_tagged_15 : decode cX7_tagged 15 = .ok (.iload_n 2, 1) := by decide +kernel
theorem dX7_tagged_16 : decode cX7_tagged 16 = .ok (.iconst 4, 1) := by decide +kernel
theorem dX7_tagged_17 : decode cX7_tagged 17 = .ok (.if_icmp .lt 6, 3) := by decide +kernel
theorem dX7_tagged_20 : decode cX7_tagged 20 = .ok (.bipush (-2), 2) := by decide +kernel
theorem dX7_tagged_22 : decode cX7_tagged 22 = .ok (.ireturn, 1) := by decide +kernel
theorem dX7_tagged_23 : decode cX7_tagged 23 = .ok (.iconst 0, 1) := by decide +kernel
theorem dX7_tagged_24 : decode cX7_tagged 24 = .ok (.istore 4, 2) := by decide +kernel
theorem dX7_tagged_26 : decode cX7_tagged 26 = .ok (.iconst 0, 1) := by decide +kernel
theorem dX7_tagged_27 : decode cX7_tagged 27 = .ok (.istore 5, 2) := by decide +kernel
theorem dX7_tagged_29 : decode cX7_tagged 29 = .ok (.iload 5, 2) := by decide +kernel
theorem dX7_tagged_31 : decode cX7_tagged 31 = .ok (.aload_n 0, 1) := by decide +kernel
theorem dX7_tagged_32 : decode cX7_tagged 32 = .ok (.getfield 19, 3) := by decide +kernel
theorem dX7_tagged_35 : decode cX7_tagged 35 = .ok (.getfield 201, 3) := by decide +kernel
theorem dX7_tagged_38 : decode cX7_tagged 38 = .ok (.if_icmp .ge 39, 3) := by decide +kernel
theorem dX7_tagged_41 : decode cX7_tagged 41 = .ok (.aload_n 0, 1) := by decide +kernel
theorem dX7_tagged_42 : decode cX7_tagged 42 = .ok (.getfield 19, 3) := by decide +kernel
theorem dX7_tagged_45 : decode cX7_tagged 45 = .ok (.iload 5, 2) := by decide +kernel
theorem dX7_tagged_47 : decode cX7_tagged 47 = .ok (.i2l, 1) := by decide +kernel
theorem dX7_tagged_48 : decode cX7_tagged 48 = .ok (.invokevirtual 130, 3) := by decide +kernel
theorem dX7_tagged_51 : decode cX7_tagged 51 = .ok (.astore 6, 2) := by decide +kernel
theorem dX7_tagged_53 : decode cX7_tagged 53 = .ok (.aload 6, 2) := by decide +kernel
theorem dX7_tagged_55 : decode cX7_tagged 55 = .ok (.ifnull 16, 3) := by decide +kernel
theorem dX7_tagged_58 : decode cX7_tagged 58 = .ok (.aload_n 3, 1) := by decide +kernel
theorem dX7_tagged_59 : decode cX7_tagged 59 = .ok (.aload 6, 2) := by decide +kernel
theorem dX7_tagged_61 : decode cX7_tagged 61 = .ok (.invokevirtual 198, 3) := by decide +kernel
theorem dX7_tagged_64 : decode cX7_tagged 64 = .ok (.iload_n 2, 1) := by decide +kernel
theorem dX7_tagged_65 : decode cX7_tagged 65 = .ok (.if_icmp .ne 6, 3) := by decide +kernel
theorem dX7_tagged_68 : decode cX7_tagged 68 = .ok (.iinc 4 1, 3) := by decide +kernel
theorem dX7_tagged_71 : decode cX7_tagged 71 = .ok (.iinc 5 1, 3) := by decide +kernel
theorem dX7_tagged_74 : decode cX7_tagged 74 = .ok (.goto (-45), 3) := by decide +kernel
theorem dX7_tagged_77 : decode cX7_tagged 77 = .ok (.iload 4, 2) := by decide +kernel
theorem dX7_tagged_79 : decode cX7_tagged 79 = .ok (.ireturn, 1) := by decide +kernel
theorem dX7_constant_0 : decode cX7_constant 0 = .ok (.aload_n 0, 1) := by decide +kernel
theorem dX7_constant_1 : decode cX7_constant 1 = .ok (.iload_n 1, 1) := by decide +kernel
theorem dX7_constant_2 : decode cX7_constant 2 = .ok (.invokevirtual 204, 3) := by decide +kernel
theorem dX7_constant_5 : decode cX7_constant 5 = .ok (.astore_n 3, 1) := by decide +kernel
theorem dX7_constant_6 : decode cX7_constant 6 = .ok (.aload_n 3, 1) := by decide +kernel
theorem dX7_constant_7 : decode cX7_constant 7 = .ok (.ifnull 24, 3) := by decide +kernel
theorem dX7_constant_10 : decode cX7_constant 10 = .ok (.iload_n 2, 1) := by decide +kernel
theorem dX7_constant_11 : decode cX7_constant 11 = .ok (.ifCond .lt 20, 3) := by decide +kernel
theorem dX7_constant_14 : decode cX7_constant 14 = .ok (.iload_n 2, 1) := by decide +kernel
theorem dX7_constant_15 : decode cX7_constant 15 = .ok (.sipush 10000, 3) := by decide +kernel
theorem dX7_constant_18 : decode cX7_constant 18 = .ok (.if_icmp .ge 13, 3) := by decide +kernel
theorem dX7_constant_21 : decode cX7_constant 21 = .ok (.aload_n 0, 1) := by decide +kernel
theorem dX7_constant_22 : decode cX7_constant 22 = .ok (.aload_n 3, 1) := by decide +kernel
theorem dX7_constant_23 : decode cX7_constant 23 = .ok (.iload_n 2, 1) := by decide +kernel
theorem dX7_constant_24 : decode cX7_constant 24 = .ok (.invokevirtual 208, 3) := by decide +kernel
theorem dX7_constant_27 : decode cX7_constant 27 = .ok (.iconst (-1), 1) := by decide +kernel
theorem dX7_constant_28 : decode cX7_constant 28 = .ok (.if_icmp .eq 6, 3) := by decide +kernel
theorem dX7_constant_31 : decode cX7_constant 31 = .ok (.bipush (-2), 2) := by decide +kernel
theorem dX7_constant_33 : decode cX7_constant 33 = .ok (.ireturn, 1) := by decide +kernel
theorem dX7_constant_34 : decode cX7_constant 34 = .ok (.aload_n 0, 1) := by decide +kernel
theorem dX7_constant_35 : decode cX7_constant 35 = .ok (.getfield 46, 3) := by decide +kernel
theorem dX7_constant_38 : decode cX7_constant 38 = .ok (.bipush 60, 2) := by decide +kernel
theorem dX7_constant_40 : decode cX7_constant 40 = .ok (.if_icmp .lt 6, 3) := by decide +kernel
theorem dX7_constant_43 : decode cX7_constant 43 = .ok (.bipush (-3), 2) := by decide +kernel
theorem dX7_constant_45 : decode cX7_constant 45 = .ok (.ireturn, 1) := by decide +kernel
theorem dX7_constant_46 : decode cX7_constant 46 = .ok (.aload_n 0, 1) := by decide +kernel
theorem dX7_constant_47 : decode cX7_constant 47 = .ok (.getfield 46, 3) := by decide +kernel
theorem dX7_constant_50 : decode cX7_constant 50 = .ok (.istore 4, 2) := by decide +kernel
theorem dX7_constant_52 : decode cX7_constant 52 = .ok (.aload_n 0, 1) := by decide +kernel
theorem dX7_constant_53 : decode cX7_constant 53 = .ok (.getfield 42, 3) := by decide +kernel
theorem dX7_constant_56 : decode cX7_constant 56 = .ok (.iload 4, 2) := by decide +kernel
theorem dX7_constant_58 : decode cX7_constant 58 = .ok (.new 40, 3) := by decide +kernel
theorem dX7_constant_61 : decode cX7_constant 61 = .ok (.dup, 1) := by decide +kernel
theorem dX7_constant_62 : decode cX7_constant 62 = .ok (.iload_n 1, 1) := by decide +kernel
theorem dX7_constant_63 : decode cX7_constant 63 = .ok (.iload_n 2, 1) := by decide +kernel
theorem dX7_constant_64 : decode cX7_constant 64 = .ok (.invokespecial 212, 3) := by decide +kernel
theorem dX7_constant_67 : decode cX7_constant 67 = .ok (.aastore, 1) := by decide +kernel
theorem dX7_constant_68 : decode cX7_constant 68 = .ok (.aload_n 0, 1) := by decide +kernel
theorem dX7_constant_69 : decode cX7_constant 69 = .ok (.dup, 1) := by decide +kernel
theorem dX7_constant_70 : decode cX7_constant 70 = .ok (.getfield 46, 3) := by decide +kernel
theorem dX7_constant_73 : decode cX7_constant 73 = .ok (.iconst 1, 1) := by decide +kernel
theorem dX7_constant_74 : decode cX7_constant 74 = .ok (.iadd, 1) := by decide +kernel
theorem dX7_constant_75 : decode cX7_constant 75 = .ok (.putfield 46, 3) := by decide +kernel
theorem dX7_constant_78 : decode cX7_constant 78 = .ok (.aload_n 3, 1) := by decide +kernel
theorem dX7_constant_79 : decode cX7_constant 79 = .ok (.iload 4, 2) := by decide +kernel
theorem dX7_constant_81 : decode cX7_constant 81 = .ok (.invokevirtual 214, 3) := by decide +kernel
theorem dX7_constant_84 : decode cX7_constant 84 = .ok (.iload 4, 2) := by decide +kernel
theorem dX7_constant_86 : decode cX7_constant 86 = .ok (.ireturn, 1) := by decide +kernel
theorem dX7_named_0 : decode cX7_named 0 = .ok (.aload_n 0, 1) := by decide +kernel
theorem dX7_named_1 : decode cX7_named 1 = .ok (.getfield 10, 3) := by decide +kernel
theorem dX7_named_4 : decode cX7_named 4 = .ok (.invokevirtual 76, 3) := by decide +kernel
theorem dX7_named_7 : decode cX7_named 7 = .ok (.aload_n 0, 1) := by decide +kernel
theorem dX7_named_8 : decode cX7_named 8 = .ok (.iload_n 1, 1) := by decide +kernel
theorem dX7_named_9 : decode cX7_named 9 = .ok (.invokevirtual 204, 3) := by decide +kernel
theorem dX7_named_12 : decode cX7_named 12 = .ok (.astore_n 3, 1) := by decide +kernel
theorem dX7_named_13 : decode cX7_named 13 = .ok (.aload_n 3, 1) := by decide +kernel
theorem dX7_named_14 : decode cX7_named 14 = .ok (.ifnonnull 6, 3) := by decide +kernel
theorem dX7_named_17 : decode cX7_named 17 = .ok (.bipush (-2), 2) := by decide +kernel
theorem dX7_named_19 : decode cX7_named 19 = .ok (.ireturn, 1) := by decide +kernel
theorem dX7_named_20 : decode cX7_named 20 = .ok (.aload_n 0, 1) := by decide +kernel
theorem dX7_named_21 : decode cX7_named 21 = .ok (.aload_n 3, 1) := by decide +kernel
theorem dX7_named_22 : decode cX7_named 22 = .ok (.iload_n 2, 1) := by decide +kernel
theorem dX7_named_23 : decode cX7_named 23 = .ok (.invokevirtual 208, 3) := by decide +kernel
theorem dX7_named_26 : decode cX7_named 26 = .ok (.istore 4, 2) := by decide +kernel
theorem dX7_named_28 : decode cX7_named 28 = .ok (.iload 4, 2) := by decide +kernel
theorem dX7_named_30 : decode cX7_named 30 = .ok (.iconst (-1), 1) := by decide +kernel
theorem dX7_named_31 : decode cX7_named 31 = .ok (.if_icmp .ne 14, 3) := by decide +kernel
theorem dX7_named_34 : decode cX7_named 34 = .ok (.aload_n 0, 1) := by decide +kernel
theorem dX7_named_35 : decode cX7_named 35 = .ok (.getfield 10, 3) := by decide +kernel
theorem dX7_named_38 : decode cX7_named 38 = .ok (.iconst 1, 1) := by decide +kernel
theorem dX7_named_39 : decode cX7_named 39 = .ok (.invokevirtual 140, 3) := by decide +kernel
theorem dX7_named_42 : decode cX7_named 42 = .ok (.goto 5, 3) := by decide +kernel
theorem dX7_named_45 : decode cX7_named 45 = .ok (.iload 4, 2) := by decide +kernel
theorem dX7_named_47 : decode cX7_named 47 = .ok (.ireturn, 1) := by decide +kernel
theorem dX7_drop_0 : decode cX7_drop 0 = .ok (.aload_n 0, 1) := by decide +kernel
theorem dX7_drop_1 : decode cX7_drop 1 = .ok (.iload_n 1, 1) := by decide +kernel
theorem dX7_drop_2 : decode cX7_drop 2 = .ok (.invokevirtual 218, 3) := by decide +kernel
theorem dX7_drop_5 : decode cX7_drop 5 = .ok (.astore_n 2, 1) := by decide +kernel
theorem dX7_drop_6 : decode cX7_drop 6 = .ok (.aload_n 2, 1) := by decide +kernel
theorem dX7_drop_7 : decode cX7_drop 7 = .ok (.ifnonnull 7, 3) := by decide +kernel
theorem dX7_drop_10 : decode cX7_drop 10 = .ok (.iconst (-1), 1) := by decide +kernel
theorem dX7_drop_11 : decode cX7_drop 11 = .ok (.goto 8, 3) := by decide +kernel
theorem dX7_drop_14 : decode cX7_drop 14 = .ok (.aload_n 2, 1) := by decide +kernel
theorem dX7_drop_15 : decode cX7_drop 15 = .ok (.iload_n 1, 1) := by decide +kernel
theorem dX7_drop_16 : decode cX7_drop 16 = .ok (.invokevirtual 221, 3) := by decide +kernel
theorem dX7_drop_19 : decode cX7_drop 19 = .ok (.istore_n 3, 1) := by decide +kernel
theorem dX7_drop_20 : decode cX7_drop 20 = .ok (.iload_n 3, 1) := by decide +kernel
theorem dX7_drop_21 : decode cX7_drop 21 = .ok (.iconst (-1), 1) := by decide +kernel
theorem dX7_drop_22 : decode cX7_drop 22 = .ok (.if_icmp .ne 6, 3) := by decide +kernel
theorem dX7_drop_25 : decode cX7_drop 25 = .ok (.bipush (-2), 2) := by decide +kernel
theorem dX7_drop_27 : decode cX7_drop 27 = .ok (.ireturn, 1) := by decide +kernel
theorem dX7_drop_28 : decode cX7_drop 28 = .ok (.aload_n 2, 1) := by decide +kernel
theorem dX7_drop_29 : decode cX7_drop 29 = .ok (.iload_n 3, 1) := by decide +kernel
theorem dX7_drop_30 : decode cX7_drop 30 = .ok (.invokevirtual 224, 3) := by decide +kernel
theorem dX7_drop_33 : decode cX7_drop 33 = .ok (.aload_n 2, 1) := by decide +kernel
theorem dX7_drop_34 : decode cX7_drop 34 = .ok (.getfield 227, 3) := by decide +kernel
theorem dX7_drop_37 : decode cX7_drop 37 = .ok (.ireturn, 1) := by decide +kernel
theorem dX7_reorder_0 : decode cX7_reorder 0 = .ok (.aload_n 0, 1) := by decide +kernel
theorem dX7_reorder_1 : decode cX7_reorder 1 = .ok (.iload_n 1, 1) := by decide +kernel
theorem dX7_reorder_2 : decode cX7_reorder 2 = .ok (.invokevirtual 204, 3) := by decide +kernel
theorem dX7_reorder_5 : decode cX7_reorder 5 = .ok (.astore_n 2, 1) := by decide +kernel
theorem dX7_reorder_6 : decode cX7_reorder 6 = .ok (.aload_n 2, 1) := by decide +kernel
theorem dX7_reorder_7 : decode cX7_reorder 7 = .ok (.ifnonnull 6, 3) := by decide +kernel
theorem dX7_reorder_10 : decode cX7_reorder 10 = .ok (.bipush (-2), 2) := by decide +kernel
theorem dX7_reorder_12 : decode cX7_reorder 12 = .ok (.ireturn, 1) := by decide +kernel
theorem dX7_reorder_13 : decode cX7_reorder 13 = .ok (.aload_n 2, 1) := by decide +kernel
theorem dX7_reorder_14 : decode cX7_reorder 14 = .ok (.getfield 227, 3) := by decide +kernel
theorem dX7_reorder_17 : decode cX7_reorder 17 = .ok (.iconst 1, 1) := by decide +kernel
theorem dX7_reorder_18 : decode cX7_reorder 18 = .ok (.isub, 1) := by decide +kernel
theorem dX7_reorder_19 : decode cX7_reorder 19 = .ok (.istore_n 3, 1) := by decide +kernel
theorem dX7_reorder_20 : decode cX7_reorder 20 = .ok (.iload_n 3, 1) := by decide +kernel
theorem dX7_reorder_21 : decode cX7_reorder 21 = .ok (.iconst 1, 1) := by decide +kernel
theorem dX7_reorder_22 : decode cX7_reorder 22 = .ok (.if_icmp .lt 21, 3) := by decide +kernel
theorem dX7_reorder_25 : decode cX7_reorder 25 = .ok (.aload_n 2, 1) := by decide +kernel
theorem dX7_reorder_26 : decode cX7_reorder 26 = .ok (.iload_n 3, 1) := by decide +kernel
theorem dX7_reorder_27 : decode cX7_reorder 27 = .ok (.aload_n 0, 1) := by decide +kernel
theorem dX7_reorder_28 : decode cX7_reorder 28 = .ok (.iload_n 3, 1) := by decide +kernel
theorem dX7_reorder_29 : decode cX7_reorder 29 = .ok (.iconst 1, 1) := by decide +kernel
theorem dX7_reorder_30 : decode cX7_reorder 30 = .ok (.iadd, 1) := by decide +kernel
theorem dX7_reorder_31 : decode cX7_reorder 31 = .ok (.invokevirtual 230, 3) := by decide +kernel
theorem dX7_reorder_34 : decode cX7_reorder 34 = .ok (.invokevirtual 233, 3) := by decide +kernel
theorem dX7_reorder_37 : decode cX7_reorder 37 = .ok (.iinc 3 (-1), 3) := by decide +kernel
theorem dX7_reorder_40 : decode cX7_reorder 40 = .ok (.goto (-20), 3) := by decide +kernel
theorem dX7_reorder_43 : decode cX7_reorder 43 = .ok (.aload_n 2, 1) := by decide +kernel
theorem dX7_reorder_44 : decode cX7_reorder 44 = .ok (.getfield 227, 3) := by decide +kernel
theorem dX7_reorder_47 : decode cX7_reorder 47 = .ok (.ireturn, 1) := by decide +kernel
theorem dX7_seed_0 : decode cX7_seed 0 = .ok (.iload_n 1, 1) := by decide +kernel
theorem dX7_seed_1 : decode cX7_seed 1 = .ok (.iconst 1, 1) := by decide +kernel
theorem dX7_seed_2 : decode cX7_seed 2 = .ok (.if_icmp .lt 12, 3) := by decide +kernel
theorem dX7_seed_5 : decode cX7_seed 5 = .ok (.iload_n 1, 1) := by decide +kernel
theorem dX7_seed_6 : decode cX7_seed 6 = .ok (.i2l, 1) := by decide +kernel
theorem dX7_seed_7 : decode cX7_seed 7 = .ok (.ldc2_w 236, 3) := by decide +kernel
theorem dX7_seed_10 : decode cX7_seed 10 = .ok (.lcmp, 1) := by decide +kernel
theorem dX7_seed_11 : decode cX7_seed 11 = .ok (.ifCond .lt 6, 3) := by decide +kernel
theorem dX7_seed_14 : decode cX7_seed 14 = .ok (.bipush (-2), 2) := by decide +kernel
theorem dX7_seed_16 : decode cX7_seed 16 = .ok (.ireturn, 1) := by decide +kernel
theorem dX7_seed_17 : decode cX7_seed 17 = .ok (.aload_n 0, 1) := by decide +kernel
theorem dX7_seed_18 : decode cX7_seed 18 = .ok (.getfield 62, 3) := by decide +kernel
theorem dX7_seed_21 : decode cX7_seed 21 = .ok (.l2i, 1) := by decide +kernel
theorem dX7_seed_22 : decode cX7_seed 22 = .ok (.istore_n 2, 1) := by decide +kernel
theorem dX7_seed_23 : decode cX7_seed 23 = .ok (.aload_n 0, 1) := by decide +kernel
theorem dX7_seed_24 : decode cX7_seed 24 = .ok (.iload_n 1, 1) := by decide +kernel
theorem dX7_seed_25 : decode cX7_seed 25 = .ok (.i2l, 1) := by decide +kernel
theorem dX7_seed_26 : decode cX7_seed 26 = .ok (.putfield 62, 3) := by decide +kernel
theorem dX7_seed_29 : decode cX7_seed 29 = .ok (.iload_n 2, 1) := by decide +kernel
theorem dX7_seed_30 : decode cX7_seed 30 = .ok (.ireturn, 1) := by decide +kernel
theorem dX7_told_0 : decode cX7_told 0 = .ok (.aload_n 0, 1) := by decide +kernel
theorem dX7_told_1 : decode cX7_told 1 = .ok (.iload_n 1, 1) := by decide +kernel
theorem dX7_told_2 : decode cX7_told 2 = .ok (.invokevirtual 238, 3) := by decide +kernel
theorem dX7_told_5 : decode cX7_told 5 = .ok (.astore_n 3, 1) := by decide +kernel
theorem dX7_told_6 : decode cX7_told 6 = .ok (.aload_n 0, 1) := by decide +kernel
theorem dX7_told_7 : decode cX7_told 7 = .ok (.iload_n 1, 1) := by decide +kernel
theorem dX7_told_8 : decode cX7_told 8 = .ok (.invokevirtual 218, 3) := by decide +kernel
theorem dX7_told_11 : decode cX7_told 11 = .ok (.astore 4, 2) := by decide +kernel
theorem dX7_told_13 : decode cX7_told 13 = .ok (.aload_n 3, 1) := by decide +kernel
theorem dX7_told_14 : decode cX7_told 14 = .ok (.ifnull 8, 3) := by decide +kernel
theorem dX7_told_17 : decode cX7_told 17 = .ok (.aload 4, 2) := by decide +kernel
theorem dX7_told_19 : decode cX7_told 19 = .ok (.ifnonnull 6, 3) := by decide +kernel
theorem dX7_told_22 : decode cX7_told 22 = .ok (.bipush (-2), 2) := by decide +kernel
theorem dX7_told_24 : decode cX7_told 24 = .ok (.ireturn, 1) := by decide +kernel
theorem dX7_told_25 : decode cX7_told 25 = .ok (.iload_n 2, 1) := by decide +kernel
theorem dX7_told_26 : decode cX7_told 26 = .ok (.tableswitch 43 0 2 #[26, 31, 36], 26) := by decide +kernel
theorem dX7_told_52 : decode cX7_told 52 = .ok (.aload_n 3, 1) := by decide +kernel
theorem dX7_told_53 : decode cX7_told 53 = .ok (.getfield 242, 3) := by decide +kernel
theorem dX7_told_56 : decode cX7_told 56 = .ok (.ireturn, 1) := by decide +kernel
theorem dX7_told_57 : decode cX7_told 57 = .ok (.aload_n 3, 1) := by decide +kernel
theorem dX7_told_58 : decode cX7_told 58 = .ok (.getfield 245, 3) := by decide +kernel
theorem dX7_told_61 : decode cX7_told 61 = .ok (.ireturn, 1) := by decide +kernel
theorem dX7_told_62 : decode cX7_told 62 = .ok (.aload 4, 2) := by decide +kernel
theorem dX7_told_64 : decode cX7_told 64 = .ok (.iload_n 1, 1) := by decide +kernel
theorem dX7_told_65 : decode cX7_told 65 = .ok (.invokevirtual 221, 3) := by decide +kernel
theorem dX7_told_68 : decode cX7_told 68 = .ok (.ireturn, 1) := by decide +kernel
theorem dX7_told_69 : decode cX7_told 69 = .ok (.bipush (-2), 2) := by decide +kernel
theorem dX7_told_71 : decode cX7_told 71 = .ok (.ireturn, 1) := by decide +kernel
theorem dX7_placed_0 : decode cX7_placed 0 = .ok (.aload_n 0, 1) := by decide +kernel
theorem dX7_placed_1 : decode cX7_placed 1 = .ok (.iload_n 1, 1) := by decide +kernel
theorem dX7_placed_2 : decode cX7_placed 2 = .ok (.invokevirtual 204, 3) := by decide +kernel
theorem dX7_placed_5 : decode cX7_placed 5 = .ok (.astore_n 3, 1) := by decide +kernel
theorem dX7_placed_6 : decode cX7_placed 6 = .ok (.aload_n 3, 1) := by decide +kernel
theorem dX7_placed_7 : decode cX7_placed 7 = .ok (.ifnull 7, 3) := by decide +kernel
theorem dX7_placed_10 : decode cX7_placed 10 = .ok (.iload_n 2, 1) := by decide +kernel
theorem dX7_placed_11 : decode cX7_placed 11 = .ok (.ifCond .ge 6, 3) := by decide +kernel
theorem dX7_placed_14 : decode cX7_placed 14 = .ok (.bipush (-2), 2) := by decide +kernel
theorem dX7_placed_16 : decode cX7_placed 16 = .ok (.ireturn, 1) := by decide +kernel
theorem dX7_placed_17 : decode cX7_placed 17 = .ok (.iload_n 2, 1) := by decide +kernel
theorem dX7_placed_18 : decode cX7_placed 18 = .ok (.aload_n 3, 1) := by decide +kernel
theorem dX7_placed_19 : decode cX7_placed 19 = .ok (.getfield 227, 3) := by decide +kernel
theorem dX7_placed_22 : decode cX7_placed 22 = .ok (.if_icmp .ge 12, 3) := by decide +kernel
theorem dX7_placed_25 : decode cX7_placed 25 = .ok (.aload_n 3, 1) := by decide +kernel
theorem dX7_placed_26 : decode cX7_placed 26 = .ok (.getfield 248, 3) := by decide +kernel
theorem dX7_placed_29 : decode cX7_placed 29 = .ok (.iload_n 2, 1) := by decide +kernel
theorem dX7_placed_30 : decode cX7_placed 30 = .ok (.iaload, 1) := by decide +kernel
theorem dX7_placed_31 : decode cX7_placed 31 = .ok (.goto 4, 3) := by decide +kernel
theorem dX7_placed_34 : decode cX7_placed 34 = .ok (.iconst (-1), 1) := by decide +kernel
theorem dX7_placed_35 : decode cX7_placed 35 = .ok (.ireturn, 1) := by decide +kernel
theorem dX7_put_0 : decode cX7_put 0 = .ok (.aload_n 0, 1) := by decide +kernel
theorem dX7_put_1 : decode cX7_put 1 = .ok (.iload_n 1, 1) := by decide +kernel
theorem dX7_put_2 : decode cX7_put 2 = .ok (.invokevirtual 238, 3) := by decide +kernel
theorem dX7_put_5 : decode cX7_put 5 = .ok (.astore_n 3, 1) := by decide +kernel
theorem dX7_put_6 : decode cX7_put 6 = .ok (.aload_n 3, 1) := by decide +kernel
theorem dX7_put_7 : decode cX7_put 7 = .ok (.ifnonnull 8, 3) := by decide +kernel
theorem dX7_put_10 : decode cX7_put 10 = .ok (.bipush (-2), 2) := by decide +kernel
theorem dX7_put_12 : decode cX7_put 12 = .ok (.goto 15, 3) := by decide +kernel
theorem dX7_put_15 : decode cX7_put 15 = .ok (.aload_n 0, 1) := by decide +kernel
theorem dX7_put_16 : decode cX7_put 16 = .ok (.getfield 58, 3) := by decide +kernel
theorem dX7_put_19 : decode cX7_put 19 = .ok (.aload_n 3, 1) := by decide +kernel
theorem dX7_put_20 : decode cX7_put 20 = .ok (.invokestatic 251, 3) := by decide +kernel
theorem dX7_put_23 : decode cX7_put 23 = .ok (.iload_n 2, 1) := by decide +kernel
theorem dX7_put_24 : decode cX7_put 24 = .ok (.invokevirtual 255, 3) := by decide +kernel
theorem dX7_put_27 : decode cX7_put 27 = .ok (.ireturn, 1) := by decide +kernel
theorem dX7_get_0 : decode cX7_get 0 = .ok (.aload_n 0, 1) := by decide +kernel
theorem dX7_get_1 : decode cX7_get 1 = .ok (.iload_n 1, 1) := by decide +kernel
theorem dX7_get_2 : decode cX7_get 2 = .ok (.invokevirtual 238, 3) := by decide +kernel
theorem dX7_get_5 : decode cX7_get 5 = .ok (.astore_n 2, 1) := by decide +kernel
theorem dX7_get_6 : decode cX7_get 6 = .ok (.aload_n 2, 1) := by decide +kernel
theorem dX7_get_7 : decode cX7_get 7 = .ok (.ifnonnull 7, 3) := by decide +kernel
theorem dX7_get_10 : decode cX7_get 10 = .ok (.iconst 0, 1) := by decide +kernel
theorem dX7_get_11 : decode cX7_get 11 = .ok (.goto 14, 3) := by decide +kernel
theorem dX7_get_14 : decode cX7_get 14 = .ok (.aload_n 0, 1) := by decide +kernel
theorem dX7_get_15 : decode cX7_get 15 = .ok (.getfield 58, 3) := by decide +kernel
theorem dX7_get_18 : decode cX7_get 18 = .ok (.aload_n 2, 1) := by decide +kernel
theorem dX7_get_19 : decode cX7_get 19 = .ok (.invokestatic 251, 3) := by decide +kernel
theorem dX7_get_22 : decode cX7_get 22 = .ok (.invokevirtual 258, 3) := by decide +kernel
theorem dX7_get_25 : decode cX7_get 25 = .ok (.ireturn, 1) := by decide +kernel
theorem dX7_count_0 : decode cX7_count 0 = .ok (.iload_n 1, 1) := by decide +kernel
theorem dX7_count_1 : decode cX7_count 1 = .ok (.tableswitch 66 0 4 #[35, 43, 48, 53, 58], 35) := by decide +kernel
theorem dX7_count_36 : decode cX7_count 36 = .ok (.aload_n 0, 1) := by decide +kernel
theorem dX7_count_37 : decode cX7_count 37 = .ok (.getfield 19, 3) := by decide +kernel
theorem dX7_count_40 : decode cX7_count 40 = .ok (.getfield 201, 3) := by decide +kernel
theorem dX7_count_43 : decode cX7_count 43 = .ok (.ireturn, 1) := by decide +kernel
theorem dX7_count_44 : decode cX7_count 44 = .ok (.aload_n 0, 1) := by decide +kernel
theorem dX7_count_45 : decode cX7_count 45 = .ok (.getfield 27, 3) := by decide +kernel
theorem dX7_count_48 : decode cX7_count 48 = .ok (.ireturn, 1) := by decide +kernel
theorem dX7_count_49 : decode cX7_count 49 = .ok (.aload_n 0, 1) := by decide +kernel
theorem dX7_count_50 : decode cX7_count 50 = .ok (.getfield 37, 3) := by decide +kernel
theorem dX7_count_53 : decode cX7_count 53 = .ok (.ireturn, 1) := by decide +kernel
theorem dX7_count_54 : decode cX7_count 54 = .ok (.aload_n 0, 1) := by decide +kernel
theorem dX7_count_55 : decode cX7_count 55 = .ok (.invokevirtual 261, 3) := by decide +kernel
theorem dX7_count_58 : decode cX7_count 58 = .ok (.ireturn, 1) := by decide +kernel
theorem dX7_count_59 : decode cX7_count 59 = .ok (.aload_n 0, 1) := by decide +kernel
theorem dX7_count_60 : decode cX7_count 60 = .ok (.getfield 58, 3) := by decide +kernel
theorem dX7_count_63 : decode cX7_count 63 = .ok (.getfield 265, 3) := by decide +kernel
theorem dX7_count_66 : decode cX7_count 66 = .ok (.ireturn, 1) := by decide +kernel
theorem dX7_count_67 : decode cX7_count 67 = .ok (.aload_n 0, 1) := by decide +kernel
theorem dX7_count_68 : decode cX7_count 68 = .ok (.getfield 10, 3) := by decide +kernel
theorem dX7_count_71 : decode cX7_count 71 = .ok (.iload_n 1, 1) := by decide +kernel
theorem dX7_count_72 : decode cX7_count 72 = .ok (.bipush 10, 2) := by decide +kernel
theorem dX7_count_74 : decode cX7_count 74 = .ok (.isub, 1) := by decide +kernel
theorem dX7_count_75 : decode cX7_count 75 = .ok (.invokevirtual 266, 3) := by decide +kernel
theorem dX7_count_78 : decode cX7_count 78 = .ok (.ireturn, 1) := by decide +kernel
theorem dX7_oneNan_0 : decode cX7_oneNan 0 = .ok (.lload_n 0, 1) := by decide +kernel
theorem dX7_oneNan_1 : decode cX7_oneNan 1 = .ok (.ldc2_w 269, 3) := by decide +kernel
theorem dX7_oneNan_4 : decode cX7_oneNan 4 = .ok (.land, 1) := by decide +kernel
theorem dX7_oneNan_5 : decode cX7_oneNan 5 = .ok (.ldc2_w 271, 3) := by decide +kernel
theorem dX7_oneNan_8 : decode cX7_oneNan 8 = .ok (.lcmp, 1) := by decide +kernel
theorem dX7_oneNan_9 : decode cX7_oneNan 9 = .ok (.ifCond .le 7, 3) := by decide +kernel
theorem dX7_oneNan_12 : decode cX7_oneNan 12 = .ok (.iconst 1, 1) := by decide +kernel
theorem dX7_oneNan_13 : decode cX7_oneNan 13 = .ok (.goto 4, 3) := by decide +kernel
theorem dX7_oneNan_16 : decode cX7_oneNan 16 = .ok (.iconst 0, 1) := by decide +kernel
theorem dX7_oneNan_17 : decode cX7_oneNan 17 = .ok (.istore_n 2, 1) := by decide +kernel
theorem dX7_oneNan_18 : decode cX7_oneNan 18 = .ok (.iload_n 2, 1) := by decide +kernel
theorem dX7_oneNan_19 : decode cX7_oneNan 19 = .ok (.ifCond .eq 9, 3) := by decide +kernel
theorem dX7_oneNan_22 : decode cX7_oneNan 22 = .ok (.ldc2_w 273, 3) := by decide +kernel
theorem dX7_oneNan_25 : decode cX7_oneNan 25 = .ok (.goto 4, 3) := by decide +kernel
theorem dX7_oneNan_28 : decode cX7_oneNan 28 = .ok (.lload_n 0, 1) := by decide +kernel
theorem dX7_oneNan_29 : decode cX7_oneNan 29 = .ok (.lreturn, 1) := by decide +kernel
theorem dX7_lengthOf_0 : decode cX7_lengthOf 0 = .ok (.iload_n 1, 1) := by decide +kernel
theorem dX7_lengthOf_1 : decode cX7_lengthOf 1 = .ok (.i2l, 1) := by decide +kernel
theorem dX7_lengthOf_2 : decode cX7_lengthOf 2 = .ok (.iload_n 0, 1) := by decide +kernel
theorem dX7_lengthOf_3 : decode cX7_lengthOf 3 = .ok (.i2l, 1) := by decide +kernel
theorem dX7_lengthOf_4 : decode cX7_lengthOf 4 = .ok (.lsub, 1) := by decide +kernel
theorem dX7_lengthOf_5 : decode cX7_lengthOf 5 = .ok (.lconst 1, 1) := by decide +kernel
theorem dX7_lengthOf_6 : decode cX7_lengthOf 6 = .ok (.ladd, 1) := by decide +kernel
theorem dX7_lengthOf_7 : decode cX7_lengthOf 7 = .ok (.lreturn, 1) := by decide +kernel
theorem dX7_numberAt_0 : decode cX7_numberAt 0 = .ok (.iload_n 1, 1) := by decide +kernel
theorem dX7_numberAt_1 : decode cX7_numberAt 1 = .ok (.ifCond .lt 20, 3) := by decide +kernel
theorem dX7_numberAt_4 : decode cX7_numberAt 4 = .ok (.iload_n 1, 1) := by decide +kernel
theorem dX7_numberAt_5 : decode cX7_numberAt 5 = .ok (.aload_n 0, 1) := by decide +kernel
theorem dX7_numberAt_6 : decode cX7_numberAt 6 = .ok (.getfield 27, 3) := by decide +kernel
theorem dX7_numberAt_9 : decode cX7_numberAt 9 = .ok (.if_icmp .ge 12, 3) := by decide +kernel
theorem dX7_numberAt_12 : decode cX7_numberAt 12 = .ok (.aload_n 0, 1) := by decide +kernel
theorem dX7_numberAt_13 : decode cX7_numberAt 13 = .ok (.getfield 23, 3) := by decide +kernel
theorem dX7_numberAt_16 : decode cX7_numberAt 16 = .ok (.iload_n 1, 1) := by decide +kernel
theorem dX7_numberAt_17 : decode cX7_numberAt 17 = .ok (.iaload, 1) := by decide +kernel
theorem dX7_numberAt_18 : decode cX7_numberAt 18 = .ok (.goto 4, 3) := by decide +kernel
theorem dX7_numberAt_21 : decode cX7_numberAt 21 = .ok (.iconst 0, 1) := by decide +kernel
theorem dX7_numberAt_22 : decode cX7_numberAt 22 = .ok (.ireturn, 1) := by decide +kernel
theorem dX7_rowParts_0 : decode cX7_rowParts 0 = .ok (.iconst 3, 1) := by decide +kernel
theorem dX7_rowParts_1 : decode cX7_rowParts 1 = .ok (.iload_n 1, 1) := by decide +kernel
theorem dX7_rowParts_2 : decode cX7_rowParts 2 = .ok (.iadd, 1) := by decide +kernel
theorem dX7_rowParts_3 : decode cX7_rowParts 3 = .ok (.newarray .long, 2) := by decide +kernel
theorem dX7_rowParts_5 : decode cX7_rowParts 5 = .ok (.astore 4, 2) := by decide +kernel
theorem dX7_rowParts_7 : decode cX7_rowParts 7 = .ok (.aload 4, 2) := by decide +kernel
theorem dX7_rowParts_9 : decode cX7_rowParts 9 = .ok (.iconst 0, 1) := by decide +kernel
theorem dX7_rowParts_10 : decode cX7_rowParts 10 = .ok (.iload_n 1, 1) := by decide +kernel
theorem dX7_rowParts_11 : decode cX7_rowParts 11 = .ok (.i2l, 1) := by decide +kernel
theorem dX7_rowParts_12 : decode cX7_rowParts 12 = .ok (.lastore, 1) := by decide +kernel
theorem dX7_rowParts_13 : decode cX7_rowParts 13 = .ok (.aload 4, 2) := by decide +kernel
theorem dX7_rowParts_15 : decode cX7_rowParts 15 = .ok (.iconst 1, 1) := by decide +kernel
theorem dX7_rowParts_16 : decode cX7_rowParts 16 = .ok (.iload_n 2, 1) := by decide +kernel
theorem dX7_rowParts_17 : decode cX7_rowParts 17 = .ok (.i2l, 1) := by decide +kernel
theorem dX7_rowParts_18 : decode cX7_rowParts 18 = .ok (.lastore, 1) := by decide +kernel
theorem dX7_rowParts_19 : decode cX7_rowParts 19 = .ok (.aload 4, 2) := by decide +kernel
theorem dX7_rowParts_21 : decode cX7_rowParts 21 = .ok (.iconst 2, 1) := by decide +kernel
theorem dX7_rowParts_22 : decode cX7_rowParts 22 = .ok (.iload_n 3, 1) := by decide +kernel
theorem dX7_rowParts_23 : decode cX7_rowParts 23 = .ok (.i2l, 1) := by decide +kernel
theorem dX7_rowParts_24 : decode cX7_rowParts 24 = .ok (.lastore, 1) := by decide +kernel
theorem dX7_rowParts_25 : decode cX7_rowParts 25 = .ok (.iconst 0, 1) := by decide +kernel
theorem dX7_rowParts_26 : decode cX7_rowParts 26 = .ok (.istore 5, 2) := by decide +kernel
theorem dX7_rowParts_28 : decode cX7_rowParts 28 = .ok (.iload 5, 2) := by decide +kernel
theorem dX7_rowParts_30 : decode cX7_rowParts 30 = .ok (.iload_n 1, 1) := by decide +kernel
theorem dX7_rowParts_31 : decode cX7_rowParts 31 = .ok (.if_icmp .ge 23, 3) := by decide +kernel
theorem dX7_rowParts_34 : decode cX7_rowParts 34 = .ok (.aload 4, 2) := by decide +kernel
theorem dX7_rowParts_36 : decode cX7_rowParts 36 = .ok (.iconst 3, 1) := by decide +kernel
theorem dX7_rowParts_37 : decode cX7_rowParts 37 = .ok (.iload 5, 2) := by decide +kernel
theorem dX7_rowParts_39 : decode cX7_rowParts 39 = .ok (.iadd, 1) := by decide +kernel
theorem dX7_rowParts_40 : decode cX7_rowParts 40 = .ok (.aload_n 0, 1) := by decide +kernel
theorem dX7_rowParts_41 : decode cX7_rowParts 41 = .ok (.iload 5, 2) := by decide +kernel
theorem dX7_rowParts_43 : decode cX7_rowParts 43 = .ok (.invokevirtual 116, 3) := by decide +kernel
theorem dX7_rowParts_46 : decode cX7_rowParts 46 = .ok (.i2l, 1) := by decide +kernel
theorem dX7_rowParts_47 : decode cX7_rowParts 47 = .ok (.lastore, 1) := by decide +kernel
theorem dX7_rowParts_48 : decode cX7_rowParts 48 = .ok (.iinc 5 1, 3) := by decide +kernel
theorem dX7_rowParts_51 : decode cX7_rowParts 51 = .ok (.goto (-23), 3) := by decide +kernel
theorem dX7_rowParts_54 : decode cX7_rowParts 54 = .ok (.aload 4, 2) := by decide +kernel
theorem dX7_rowParts_56 : decode cX7_rowParts 56 = .ok (.areturn, 1) := by decide +kernel
theorem dX7_areKindsOnce_0 : decode cX7_areKindsOnce 0 = .ok (.iconst 0, 1) := by decide +kernel
theorem dX7_areKindsOnce_1 : decode cX7_areKindsOnce 1 = .ok (.istore_n 1, 1) := by decide +kernel
theorem dX7_areKindsOnce_2 : decode cX7_areKindsOnce 2 = .ok (.aload_n 0, 1) := by decide +kernel
theorem dX7_areKindsOnce_3 : decode cX7_areKindsOnce 3 = .ok (.astore_n 2, 1) := by decide +kernel
theorem dX7_areKindsOnce_4 : decode cX7_areKindsOnce 4 = .ok (.aload_n 2, 1) := by decide +kernel
theorem dX7_areKindsOnce_5 : decode cX7_areKindsOnce 5 = .ok (.arraylength, 1) := by decide +kernel
theorem dX7_areKindsOnce_6 : decode cX7_areKindsOnce 6 = .ok (.istore_n 3, 1) := by decide +kernel
theorem dX7_areKindsOnce_7 : decode cX7_areKindsOnce 7 = .ok (.iconst 0, 1) := by decide +kernel
theorem dX7_areKindsOnce_8 : decode cX7_areKindsOnce 8 = .ok (.istore 4, 2) := by decide +kernel
theorem dX7_areKindsOnce_10 : decode cX7_areKindsOnce 10 = .ok (.iload 4, 2) := by decide +kernel
theorem dX7_areKindsOnce_12 : decode cX7_areKindsOnce 12 = .ok (.iload_n 3, 1) := by decide +kernel
theorem dX7_areKindsOnce_13 : decode cX7_areKindsOnce 13 = .ok (.if_icmp .ge 54, 3) := by decide +kernel
theorem dX7_areKindsOnce_16 : decode cX7_areKindsOnce 16 = .ok (.aload_n 2, 1) := by decide +kernel
theorem dX7_areKindsOnce_17 : decode cX7_areKindsOnce 17 = .ok (.iload 4, 2) := by decide +kernel
theorem dX7_areKindsOnce_19 : decode cX7_areKindsOnce 19 = .ok (.iaload, 1) := by decide +kernel
theorem dX7_areKindsOnce_20 : decode cX7_areKindsOnce 20 = .ok (.istore 5, 2) := by decide +kernel
theorem dX7_areKindsOnce_22 : decode cX7_areKindsOnce 22 = .ok (.iload 5, 2) := by decide +kernel
theorem dX7_areKindsOnce_24 : decode cX7_areKindsOnce 24 = .ok (.iconst (-1), 1) := by decide +kernel
theorem dX7_areKindsOnce_25 : decode cX7_areKindsOnce 25 = .ok (.if_icmp .ne 6, 3) := by decide +kernel
theorem dX7_areKindsOnce_28 : decode cX7_areKindsOnce 28 = .ok (.goto 33, 3) := by decide +kernel
theorem dX7_areKindsOnce_31 : decode cX7_areKindsOnce 31 = .ok (.iload 5, 2) := by decide +kernel
theorem dX7_areKindsOnce_33 : decode cX7_areKindsOnce 33 = .ok (.ifCond .lt 19, 3) := by decide +kernel
theorem dX7_areKindsOnce_36 : decode cX7_areKindsOnce 36 = .ok (.iload 5, 2) := by decide +kernel
theorem dX7_areKindsOnce_38 : decode cX7_areKindsOnce 38 = .ok (.bipush 6, 2) := by decide +kernel
theorem dX7_areKindsOnce_40 : decode cX7_areKindsOnce 40 = .ok (.if_icmp .gt 12, 3) := by decide +kernel
theorem dX7_areKindsOnce_43 : decode cX7_areKindsOnce 43 = .ok (.iload_n 1, 1) := by decide +kernel
theorem dX7_areKindsOnce_44 : decode cX7_areKindsOnce 44 = .ok (.iload 5, 2) := by decide +kernel
theorem dX7_areKindsOnce_46 : decode cX7_areKindsOnce 46 = .ok (.ishr, 1) := by decide +kernel
theorem dX7_areKindsOnce_47 : decode cX7_areKindsOnce 47 = .ok (.iconst 1, 1) := by decide +kernel
theorem dX7_areKindsOnce_48 : decode cX7_areKindsOnce 48 = .ok (.iand, 1) := by decide +kernel
theorem dX7_areKindsOnce_49 : decode cX7_areKindsOnce 49 = .ok (.ifCond .eq 5, 3) := by decide +kernel
theorem dX7_areKindsOnce_52 : decode cX7_areKindsOnce 52 = .ok (.iconst 0, 1) := by decide +kernel
theorem dX7_areKindsOnce_53 : decode cX7_areKindsOnce 53 = .ok (.ireturn, 1) := by decide +kernel
theorem dX7_areKindsOnce_54 : decode cX7_areKindsOnce 54 = .ok (.iload_n 1, 1) := by decide +kernel
theorem dX7_areKindsOnce_55 : decode cX7_areKindsOnce 55 = .ok (.iconst 1, 1) := by decide +kernel
theorem dX7_areKindsOnce_56 : decode cX7_areKindsOnce 56 = .ok (.iload 5, 2) := by decide +kernel
theorem dX7_areKindsOnce_58 : decode cX7_areKindsOnce 58 = .ok (.ishl, 1) := by decide +kernel
theorem dX7_areKindsOnce_59 : decode cX7_areKindsOnce 59 = .ok (.ior, 1) := by decide +kernel
theorem dX7_areKindsOnce_60 : decode cX7_areKindsOnce 60 = .ok (.istore_n 1, 1) := by decide +kernel
theorem dX7_areKindsOnce_61 : decode cX7_areKindsOnce 61 = .ok (.iinc 4 1, 3) := by decide +kernel
theorem dX7_areKindsOnce_64 : decode cX7_areKindsOnce 64 = .ok (.goto (-54), 3) := by decide +kernel
theorem dX7_areKindsOnce_67 : decode cX7_areKindsOnce 67 = .ok (.iconst 1, 1) := by decide +kernel
theorem dX7_areKindsOnce_68 : decode cX7_areKindsOnce 68 = .ok (.ireturn, 1) := by decide +kernel
theorem dX7_findFamily_0 : decode cX7_findFamily 0 = .ok (.iload_n 1, 1) := by decide +kernel
theorem dX7_findFamily_1 : decode cX7_findFamily 1 = .ok (.ifCond .lt 20, 3) := by decide +kernel
theorem dX7_findFamily_4 : decode cX7_findFamily 4 = .ok (.iload_n 1, 1) := by decide +kernel
theorem dX7_findFamily_5 : decode cX7_findFamily 5 = .ok (.aload_n 0, 1) := by decide +kernel
theorem dX7_findFamily_6 : decode cX7_findFamily 6 = .ok (.getfield 37, 3) := by decide +kernel
theorem dX7_findFamily_9 : decode cX7_findFamily 9 = .ok (.if_icmp .ge 12, 3) := by decide +kernel
theorem dX7_findFamily_12 : decode cX7_findFamily 12 = .ok (.aload_n 0, 1) := by decide +kernel
theorem dX7_findFamily_13 : decode cX7_findFamily 13 = .ok (.getfield 33, 3) := by decide +kernel
theorem dX7_findFamily_16 : decode cX7_findFamily 16 = .ok (.iload_n 1, 1) := by decide +kernel
theorem dX7_findFamily_17 : decode cX7_findFamily 17 = .ok (.aaload, 1) := by decide +kernel
theorem dX7_findFamily_18 : decode cX7_findFamily 18 = .ok (.goto 4, 3) := by decide +kernel
theorem dX7_findFamily_21 : decode cX7_findFamily 21 = .ok (.aconst_null, 1) := by decide +kernel
theorem dX7_findFamily_22 : decode cX7_findFamily 22 = .ok (.areturn, 1) := by decide +kernel
theorem dX7_findConstant_0 : decode cX7_findConstant 0 = .ok (.iload_n 1, 1) := by decide +kernel
theorem dX7_findConstant_1 : decode cX7_findConstant 1 = .ok (.ifCond .lt 20, 3) := by decide +kernel
theorem dX7_findConstant_4 : decode cX7_findConstant 4 = .ok (.iload_n 1, 1) := by decide +kernel
theorem dX7_findConstant_5 : decode cX7_findConstant 5 = .ok (.aload_n 0, 1) := by decide +kernel
theorem dX7_findConstant_6 : decode cX7_findConstant 6 = .ok (.getfield 46, 3) := by decide +kernel
theorem dX7_findConstant_9 : decode cX7_findConstant 9 = .ok (.if_icmp .ge 12, 3) := by decide +kernel
theorem dX7_findConstant_12 : decode cX7_findConstant 12 = .ok (.aload_n 0, 1) := by decide +kernel
theorem dX7_findConstant_13 : decode cX7_findConstant 13 = .ok (.getfield 42, 3) := by decide +kernel
theorem dX7_findConstant_16 : decode cX7_findConstant 16 = .ok (.iload_n 1, 1) := by decide +kernel
theorem dX7_findConstant_17 : decode cX7_findConstant 17 = .ok (.aaload, 1) := by decide +kernel
theorem dX7_findConstant_18 : decode cX7_findConstant 18 = .ok (.goto 4, 3) := by decide +kernel
theorem dX7_findConstant_21 : decode cX7_findConstant 21 = .ok (.aconst_null, 1) := by decide +kernel
theorem dX7_findConstant_22 : decode cX7_findConstant 22 = .ok (.areturn, 1) := by decide +kernel
theorem dX7_findEnumeration_0 : decode cX7_findEnumeration 0 = .ok (.iload_n 1, 1) := by decide +kernel
theorem dX7_findEnumeration_1 : decode cX7_findEnumeration 1 = .ok (.ifCond .lt 17, 3) := by decide +kernel
theorem dX7_findEnumeration_4 : decode cX7_findEnumeration 4 = .ok (.iload_n 1, 1) := by decide +kernel
theorem dX7_findEnumeration_5 : decode cX7_findEnumeration 5 = .ok (.iconst 4, 1) := by decide +kernel
theorem dX7_findEnumeration_6 : decode cX7_findEnumeration 6 = .ok (.if_icmp .ge 12, 3) := by decide +kernel
theorem dX7_findEnumeration_9 : decode cX7_findEnumeration 9 = .ok (.aload_n 0, 1) := by decide +kernel
theorem dX7_findEnumeration_10 : decode cX7_findEnumeration 10 = .ok (.getfield 51, 3) := by decide +kernel
theorem dX7_findEnumeration_13 : decode cX7_findEnumeration 13 = .ok (.iload_n 1, 1) := by decide +kernel
theorem dX7_findEnumeration_14 : decode cX7_findEnumeration 14 = .ok (.aaload, 1) := by decide +kernel
theorem dX7_findEnumeration_15 : decode cX7_findEnumeration 15 = .ok (.goto 4, 3) := by decide +kernel
theorem dX7_findEnumeration_18 : decode cX7_findEnumeration 18 = .ok (.aconst_null, 1) := by decide +kernel
theorem dX7_findEnumeration_19 : decode cX7_findEnumeration 19 = .ok (.areturn, 1) := by decide +kernel
theorem dX7_homeOf_0 : decode cX7_homeOf 0 = .ok (.aload_n 0, 1) := by decide +kernel
theorem dX7_homeOf_1 : decode cX7_homeOf 1 = .ok (.iload_n 1, 1) := by decide +kernel
theorem dX7_homeOf_2 : decode cX7_homeOf 2 = .ok (.invokevirtual 238, 3) := by decide +kernel
theorem dX7_homeOf_5 : decode cX7_homeOf 5 = .ok (.astore_n 2, 1) := by decide +kernel
theorem dX7_homeOf_6 : decode cX7_homeOf 6 = .ok (.aload_n 2, 1) := by decide +kernel
theorem dX7_homeOf_7 : decode cX7_homeOf 7 = .ok (.ifnonnull 7, 3) := by decide +kernel
theorem dX7_homeOf_10 : decode cX7_homeOf 10 = .ok (.aconst_null, 1) := by decide +kernel
theorem dX7_homeOf_11 : decode cX7_homeOf 11 = .ok (.goto 11, 3) := by decide +kernel
theorem dX7_homeOf_14 : decode cX7_homeOf 14 = .ok (.aload_n 0, 1) := by decide +kernel
theorem dX7_homeOf_15 : decode cX7_homeOf 15 = .ok (.aload_n 2, 1) := by decide +kernel
theorem dX7_homeOf_16 : decode cX7_homeOf 16 = .ok (.getfield 242, 3) := by decide +kernel
theorem dX7_homeOf_19 : decode cX7_homeOf 19 = .ok (.invokevirtual 204, 3) := by decide +kernel
theorem dX7_homeOf_22 : decode cX7_homeOf 22 = .ok (.areturn, 1) := by decide +kernel
theorem dX7_memberNamed_0 : decode cX7_memberNamed 0 = .ok (.iconst 0, 1) := by decide +kernel
theorem dX7_memberNamed_1 : decode cX7_memberNamed 1 = .ok (.istore_n 3, 1) := by decide +kernel
theorem dX7_memberNamed_2 : decode cX7_memberNamed 2 = .ok (.iload_n 3, 1) := by decide +kernel
theorem dX7_memberNamed_3 : decode cX7_memberNamed 3 = .ok (.aload_n 1, 1) := by decide +kernel
theorem dX7_memberNamed_4 : decode cX7_memberNamed 4 = .ok (.getfield 227, 3) := by decide +kernel
theorem dX7_memberNamed_7 : decode cX7_memberNamed 7 = .ok (.if_icmp .ge 42, 3) := by decide +kernel
theorem dX7_memberNamed_10 : decode cX7_memberNamed 10 = .ok (.aload_n 0, 1) := by decide +kernel
theorem dX7_memberNamed_11 : decode cX7_memberNamed 11 = .ok (.aload_n 1, 1) := by decide +kernel
theorem dX7_memberNamed_12 : decode cX7_memberNamed 12 = .ok (.getfield 248, 3) := by decide +kernel
theorem dX7_memberNamed_15 : decode cX7_memberNamed 15 = .ok (.iload_n 3, 1) := by decide +kernel
theorem dX7_memberNamed_16 : decode cX7_memberNamed 16 = .ok (.iaload, 1) := by decide +kernel
theorem dX7_memberNamed_17 : decode cX7_memberNamed 17 = .ok (.invokevirtual 238, 3) := by decide +kernel
theorem dX7_memberNamed_20 : decode cX7_memberNamed 20 = .ok (.astore 4, 2) := by decide +kernel
theorem dX7_memberNamed_22 : decode cX7_memberNamed 22 = .ok (.aload 4, 2) := by decide +kernel
theorem dX7_memberNamed_24 : decode cX7_memberNamed 24 = .ok (.ifnull 19, 3) := by decide +kernel
theorem dX7_memberNamed_27 : decode cX7_memberNamed 27 = .ok (.aload 4, 2) := by decide +kernel
theorem dX7_memberNamed_29 : decode cX7_memberNamed 29 = .ok (.getfield 245, 3) := by decide +kernel
theorem dX7_memberNamed_32 : decode cX7_memberNamed 32 = .ok (.iload_n 2, 1) := by decide +kernel
theorem dX7_memberNamed_33 : decode cX7_memberNamed 33 = .ok (.if_icmp .ne 10, 3) := by decide +kernel
theorem dX7_memberNamed_36 : decode cX7_memberNamed 36 = .ok (.aload_n 1, 1) := by decide +kernel
theorem dX7_memberNamed_37 : decode cX7_memberNamed 37 = .ok (.getfield 248, 3) := by decide +kernel
theorem dX7_memberNamed_40 : decode cX7_memberNamed 40 = .ok (.iload_n 3, 1) := by decide +kernel
theorem dX7_memberNamed_41 : decode cX7_memberNamed 41 = .ok (.iaload, 1) := by decide +kernel
theorem dX7_memberNamed_42 : decode cX7_memberNamed 42 = .ok (.ireturn, 1) := by decide +kernel
theorem dX7_memberNamed_43 : decode cX7_memberNamed 43 = .ok (.iinc 3 1, 3) := by decide +kernel
theorem dX7_memberNamed_46 : decode cX7_memberNamed 46 = .ok (.goto (-44), 3) := by decide +kernel
theorem dX7_memberNamed_49 : decode cX7_memberNamed 49 = .ok (.iconst (-1), 1) := by decide +kernel
theorem dX7_memberNamed_50 : decode cX7_memberNamed 50 = .ok (.ireturn, 1) := by decide +kernel
theorem dX7_membersOfAll_0 : decode cX7_membersOfAll 0 = .ok (.iconst 0, 1) := by decide +kernel
theorem dX7_membersOfAll_1 : decode cX7_membersOfAll 1 = .ok (.istore_n 1, 1) := by decide +kernel
theorem dX7_membersOfAll_2 : decode cX7_membersOfAll 2 = .ok (.aload_n 0, 1) := by decide +kernel
theorem dX7_membersOfAll_3 : decode cX7_membersOfAll 3 = .ok (.getfield 51, 3) := by decide +kernel
theorem dX7_membersOfAll_6 : decode cX7_membersOfAll 6 = .ok (.astore_n 2, 1) := by decide +kernel
theorem dX7_membersOfAll_7 : decode cX7_membersOfAll 7 = .ok (.aload_n 2, 1) := by decide +kernel
theorem dX7_membersOfAll_8 : decode cX7_membersOfAll 8 = .ok (.arraylength, 1) := by decide +kernel
theorem dX7_membersOfAll_9 : decode cX7_membersOfAll 9 = .ok (.istore_n 3, 1) := by decide +kernel
theorem dX7_membersOfAll_10 : decode cX7_membersOfAll 10 = .ok (.iconst 0, 1) := by decide +kernel
theorem dX7_membersOfAll_11 : decode cX7_membersOfAll 11 = .ok (.istore 4, 2) := by decide +kernel
theorem dX7_membersOfAll_13 : decode cX7_membersOfAll 13 = .ok (.iload 4, 2) := by decide +kernel
theorem dX7_membersOfAll_15 : decode cX7_membersOfAll 15 = .ok (.iload_n 3, 1) := by decide +kernel
theorem dX7_membersOfAll_16 : decode cX7_membersOfAll 16 = .ok (.if_icmp .ge 23, 3) := by decide +kernel
theorem dX7_membersOfAll_19 : decode cX7_membersOfAll 19 = .ok (.aload_n 2, 1) := by decide +kernel
theorem dX7_membersOfAll_20 : decode cX7_membersOfAll 20 = .ok (.iload 4, 2) := by decide +kernel
theorem dX7_membersOfAll_22 : decode cX7_membersOfAll 22 = .ok (.aaload, 1) := by decide +kernel
theorem dX7_membersOfAll_23 : decode cX7_membersOfAll 23 = .ok (.astore 5, 2) := by decide +kernel
theorem dX7_membersOfAll_25 : decode cX7_membersOfAll 25 = .ok (.iload_n 1, 1) := by decide +kernel
theorem dX7_membersOfAll_26 : decode cX7_membersOfAll 26 = .ok (.aload 5, 2) := by decide +kernel
theorem dX7_membersOfAll_28 : decode cX7_membersOfAll 28 = .ok (.getfield 227, 3) := by decide +kernel
theorem dX7_membersOfAll_31 : decode cX7_membersOfAll 31 = .ok (.iadd, 1) := by decide +kernel
theorem dX7_membersOfAll_32 : decode cX7_membersOfAll 32 = .ok (.istore_n 1, 1) := by decide +kernel
theorem dX7_membersOfAll_33 : decode cX7_membersOfAll 33 = .ok (.iinc 4 1, 3) := by decide +kernel
theorem dX7_membersOfAll_36 : decode cX7_membersOfAll 36 = .ok (.goto (-23), 3) := by decide +kernel
theorem dX7_membersOfAll_39 : decode cX7_membersOfAll 39 = .ok (.iload_n 1, 1) := by decide +kernel
theorem dX7_membersOfAll_40 : decode cX7_membersOfAll 40 = .ok (.ireturn, 1) := by decide +kernel
theorem dX7_drawBelow_0 : decode cX7_drawBelow 0 = .ok (.aload_n 0, 1) := by decide +kernel
theorem dX7_drawBelow_1 : decode cX7_drawBelow 1 = .ok (.aload_n 0, 1) := by decide +kernel
theorem dX7_drawBelow_2 : decode cX7_drawBelow 2 = .ok (.getfield 62, 3) := by decide +kernel
theorem dX7_drawBelow_5 : decode cX7_drawBelow 5 = .ok (.ldc2_w 275, 3) := by decide +kernel
theorem dX7_drawBelow_8 : decode cX7_drawBelow 8 = .ok (.lmul, 1) := by decide +kernel
theorem dX7_drawBelow_9 : decode cX7_drawBelow 9 = .ok (.ldc2_w 236, 3) := by decide +kernel
theorem dX7_drawBelow_12 : decode cX7_drawBelow 12 = .ok (.lrem, 1) := by decide +kernel
theorem dX7_drawBelow_13 : decode cX7_drawBelow 13 = .ok (.putfield 62, 3) := by decide +kernel
theorem dX7_drawBelow_16 : decode cX7_drawBelow 16 = .ok (.iload_n 1, 1) := by decide +kernel
theorem dX7_drawBelow_17 : decode cX7_drawBelow 17 = .ok (.ifCond .gt 7, 3) := by decide +kernel
theorem dX7_drawBelow_20 : decode cX7_drawBelow 20 = .ok (.iconst 0, 1) := by decide +kernel
theorem dX7_drawBelow_21 : decode cX7_drawBelow 21 = .ok (.goto 11, 3) := by decide +kernel
theorem dX7_drawBelow_24 : decode cX7_drawBelow 24 = .ok (.aload_n 0, 1) := by decide +kernel
theorem dX7_drawBelow_25 : decode cX7_drawBelow 25 = .ok (.getfield 62, 3) := by decide +kernel
theorem dX7_drawBelow_28 : decode cX7_drawBelow 28 = .ok (.iload_n 1, 1) := by decide +kernel
theorem dX7_drawBelow_29 : decode cX7_drawBelow 29 = .ok (.i2l, 1) := by decide +kernel
theorem dX7_drawBelow_30 : decode cX7_drawBelow 30 = .ok (.lrem, 1) := by decide +kernel
theorem dX7_drawBelow_31 : decode cX7_drawBelow 31 = .ok (.l2i, 1) := by decide +kernel
theorem dX7_drawBelow_32 : decode cX7_drawBelow 32 = .ok (.ireturn, 1) := by decide +kernel
theorem dX7_keyOf_0 : decode cX7_keyOf 0 = .ok (.aload_n 0, 1) := by decide +kernel
theorem dX7_keyOf_1 : decode cX7_keyOf 1 = .ok (.getfield 242, 3) := by decide +kernel
theorem dX7_keyOf_4 : decode cX7_keyOf 4 = .ok (.sipush 10000, 3) := by decide +kernel
theorem dX7_keyOf_7 : decode cX7_keyOf 7 = .ok (.imul, 1) := by decide +kernel
theorem dX7_keyOf_8 : decode cX7_keyOf 8 = .ok (.aload_n 0, 1) := by decide +kernel
theorem dX7_keyOf_9 : decode cX7_keyOf 9 = .ok (.getfield 245, 3) := by decide +kernel
theorem dX7_keyOf_12 : decode cX7_keyOf 12 = .ok (.iadd, 1) := by decide +kernel
theorem dX7_keyOf_13 : decode cX7_keyOf 13 = .ok (.ireturn, 1) := by decide +kernel
theorem dX8_init_0 : decode cX8_init 0 = .ok (.aload_n 0, 1) := by decide +kernel
theorem dX8_init_1 : decode cX8_init 1 = .ok (.invokespecial 1, 3) := by decide +kernel
theorem dX8_init_4 : decode cX8_init 4 = .ok (.aload_n 0, 1) := by decide +kernel
theorem dX8_init_5 : decode cX8_init 5 = .ok (.iconst (-1), 1) := by decide +kernel
theorem dX8_init_6 : decode cX8_init 6 = .ok (.putfield 9, 3) := by decide +kernel
theorem dX8_init_9 : decode cX8_init 9 = .ok (.aload_n 0, 1) := by decide +kernel
theorem dX8_init_10 : decode cX8_init 10 = .ok (.bipush 8, 2) := by decide +kernel
theorem dX8_init_12 : decode cX8_init 12 = .ok (.newarray .int, 2) := by decide +kernel
theorem dX8_init_14 : decode cX8_init 14 = .ok (.putfield 13, 3) := by decide +kernel
theorem dX8_init_17 : decode cX8_init 17 = .ok (.aload_n 0, 1) := by decide +kernel
theorem dX8_init_18 : decode cX8_init 18 = .ok (.bipush 12, 2) := by decide +kernel
theorem dX8_init_20 : decode cX8_init 20 = .ok (.newarray .int, 2) := by decide +kernel
theorem dX8_init_22 : decode cX8_init 22 = .ok (.putfield 17, 3) := by decide +kernel
theorem dX8_init_25 : decode cX8_init 25 = .ok (.aload_n 0, 1) := by decide +kernel
theorem dX8_init_26 : decode cX8_init 26 = .ok (.bipush 60, 2) := by decide +kernel
theorem dX8_init_28 : decode cX8_init 28 = .ok (.newarray .int, 2) := by decide +kernel
theorem dX8_init_30 : decode cX8_init 30 = .ok (.putfield 20, 3) := by decide +kernel
theorem dX8_init_33 : decode cX8_init 33 = .ok (.aload_n 0, 1) := by decide +kernel
theorem dX8_init_34 : decode cX8_init 34 = .ok (.bipush 60, 2) := by decide +kernel
theorem dX8_init_36 : decode cX8_init 36 = .ok (.newarray .int, 2) := by decide +kernel
theorem dX8_init_38 : decode cX8_init 38 = .ok (.putfield 23, 3) := by decide +kernel
theorem dX8_init_41 : decode cX8_init 41 = .ok (.aload_n 0, 1) := by decide +kernel
theorem dX8_init_42 : decode cX8_init 42 = .ok (.sipush 960, 3) := by decide +kernel
theorem dX8_init_45 : decode cX8_init 45 = .ok (.newarray .long, 2) := by decide +kernel
theorem dX8_init_47 : decode cX8_init 47 = .ok (.putfield 26, 3) := by decide +kernel
theorem dX8_init_50 : decode cX8_init 50 = .ok (.aload_n 0, 1) := by decide +kernel
theorem dX8_init_51 : decode cX8_init 51 = .ok (.bipush 60, 2) := by decide +kernel
theorem dX8_init_53 : decode cX8_init 53 = .ok (.newarray .boolean, 2) := by decide +kernel
theorem dX8_init_55 : decode cX8_init 55 = .ok (.putfield 30, 3) := by decide +kernel
theorem dX8_init_58 : decode cX8_init 58 = .ok (.aload_n 0, 1) := by decide +kernel
theorem dX8_init_59 : decode cX8_init 59 = .ok (.bipush 60, 2) := by decide +kernel
theorem dX8_init_61 : decode cX8_init 61 = .ok (.newarray .int, 2) := by decide +kernel
theorem dX8_init_63 : decode cX8_init 63 = .ok (.putfield 34, 3) := by decide +kernel
theorem dX8_init_66 : decode cX8_init 66 = .ok (.aload_n 0, 1) := by decide +kernel
theorem dX8_init_67 : decode cX8_init 67 = .ok (.bipush 60, 2) := by decide +kernel
theorem dX8_init_69 : decode cX8_init 69 = .ok (.newarray .int, 2) := by decide +kernel
theorem dX8_init_71 : decode cX8_init 71 = .ok (.putfield 37, 3) := by decide +kernel
theorem dX8_init_74 : decode cX8_init 74 = .ok (.aload_n 0, 1) := by decide +kernel
theorem dX8_init_75 : decode cX8_init 75 = .ok (.bipush 60, 2) := by decide +kernel
theorem dX8_init_77 : decode cX8_init 77 = .ok (.newarray .long, 2) := by decide +kernel
theorem dX8_init_79 : decode cX8_init 79 = .ok (.putfield 40, 3) := by decide +kernel
theorem dX8_init_82 : decode cX8_init 82 = .ok (.aload_n 0, 1) := by decide +kernel
theorem dX8_init_83 : decode cX8_init 83 = .ok (.bipush 6, 2) := by decide +kernel
theorem dX8_init_85 : decode cX8_init 85 = .ok (.newarray .int, 2) := by decide +kernel
theorem dX8_init_87 : decode cX8_init 87 = .ok (.putfield 43, 3) := by decide +kernel
theorem dX8_init_90 : decode cX8_init 90 = .ok (.aload_n 0, 1) := by decide +kernel
theorem dX8_init_91 : decode cX8_init 91 = .ok (.bipush 24, 2) := by decide +kernel
theorem dX8_init_93 : decode cX8_init 93 = .ok (.newarray .int, 2) := by decide +kernel
theorem dX8_init_95 : decode cX8_init 95 = .ok (.putfield 46, 3) := by decide +kernel
theorem dX8_init_98 : decode cX8_init 98 = .ok (.aload_n 0, 1) := by decide +kernel
theorem dX8_init_99 : decode cX8_init 99 = .ok (.bipush 60, 2) := by decide +kernel
theorem dX8_init_101 : decode cX8_init 101 = .ok (.newarray .int, 2) := by decide +kernel
theorem dX8_init_103 : decode cX8_init 103 = .ok (.putfield 49, 3) := by decide +kernel
theorem dX8_init_106 : decode cX8_init 106 = .ok (.aload_n 0, 1) := by decide +kernel
theorem dX8_init_107 : decode cX8_init 107 = .ok (.bipush 60, 2) := by decide +kernel
theorem dX8_init_109 : decode cX8_init 109 = .ok (.newarray .int, 2) := by decide +kernel
theorem dX8_init_111 : decode cX8_init 111 = .ok (.putfield 52, 3) := by decide +kernel
theorem dX8_init_114 : decode cX8_init 114 = .ok (.aload_n 0, 1) := by decide +kernel
theorem dX8_init_115 : decode cX8_init 115 = .ok (.bipush 60, 2) := by decide +kernel
theorem dX8_init_117 : decode cX8_init 117 = .ok (.newarray .int, 2) := by decide +kernel
theorem dX8_init_119 : decode cX8_init 119 = .ok (.putfield 55, 3) := by decide +kernel
theorem dX8_init_122 : decode cX8_init 122 = .ok (.aload_n 0, 1) := by decide +kernel
theorem dX8_init_123 : decode cX8_init 123 = .ok (.iconst 4, 1) := by decide +kernel
theorem dX8_init_124 : decode cX8_init 124 = .ok (.newarray .int, 2) := by decide +kernel
theorem dX8_init_126 : decode cX8_init 126 = .ok (.putfield 58, 3) := by decide +kernel
theorem dX8_init_129 : decode cX8_init 129 = .ok (.aload_n 0, 1) := by decide +kernel
theorem dX8_init_130 : decode cX8_init 130 = .ok (.lconst 1, 1) := by decide +kernel
theorem dX8_init_131 : decode cX8_init 131 = .ok (.putfield 61, 3) := by decide +kernel
theorem dX8_init_134 : decode cX8_init 134 = .ok (.aload_n 0, 1) := by decide +kernel
theorem dX8_init_135 : decode cX8_init 135 = .ok (.bipush 40, 2) := by decide +kernel
theorem dX8_init_137 : decode cX8_init 137 = .ok (.newarray .int, 2) := by decide +kernel
theorem dX8_init_139 : decode cX8_init 139 = .ok (.putfield 65, 3) := by decide +kernel
theorem dX8_init_142 : decode cX8_init 142 = .ok (.aload_n 0, 1) := by decide +kernel
theorem dX8_init_143 : decode cX8_init 143 = .ok (.bipush 40, 2) := by decide +kernel
theorem dX8_init_145 : decode cX8_init 145 = .ok (.newarray .int, 2) := by decide +kernel
theorem dX8_init_147 : decode cX8_init 147 = .ok (.putfield 68, 3) := by decide +kernel
theorem dX8_init_150 : decode cX8_init 150 = .ok (.aload_n 0, 1) := by decide +kernel
theorem dX8_init_151 : decode cX8_init 151 = .ok (.bipush 40, 2) := by decide +kernel
theorem dX8_init_153 : decode cX8_init 153 = .ok (.newarray .int, 2) := by decide +kernel
theorem dX8_init_155 : decode cX8_init 155 = .ok (.putfield 71, 3) := by decide +kernel
theorem dX8_init_158 : decode cX8_init 158 = .ok (.return_, 1) := by decide +kernel
theorem dX8_begin_0 : decode cX8_begin 0 = .ok (.aload_n 0, 1) := by decide +kernel
theorem dX8_begin_1 : decode cX8_begin 1 = .ok (.iconst 0, 1) := by decide +kernel
theorem dX8_begin_2 : decode cX8_begin 2 = .ok (.putfield 74, 3) := by decide +kernel
theorem dX8_begin_5 : decode cX8_begin 5 = .ok (.aload_n 0, 1) := by decide +kernel
theorem dX8_begin_6 : decode cX8_begin 6 = .ok (.iconst (-1), 1) := by decide +kernel
theorem dX8_begin_7 : decode cX8_begin 7 = .ok (.putfield 9, 3) := by decide +kernel
theorem dX8_begin_10 : decode cX8_begin 10 = .ok (.aload_n 0, 1) := by decide +kernel
theorem dX8_begin_11 : decode cX8_begin 11 = .ok (.iconst 0, 1) := by decide +kernel
theorem dX8_begin_12 : decode cX8_begin 12 = .ok (.putfield 77, 3) := by decide +kernel
theorem dX8_begin_15 : decode cX8_begin 15 = .ok (.return_, 1) := by decide +kernel
theorem dX8_fails_0 : decode cX8_fails 0 = .ok (.aload_n 0, 1) := by decide +kernel
theorem dX8_fails_1 : decode cX8_fails 1 = .ok (.iload_n 1, 1) := by decide +kernel
theorem dX8_fails_2 : decode cX8_fails 2 = .ok (.putfield 74, 3) := by decide +kernel
theorem dX8_fails_5 : decode cX8_fails 5 = .ok (.aload_n 0, 1) := by decide +kernel
theorem dX8_fails_6 : decode cX8_fails 6 = .ok (.iload_n 2, 1) := by decide +kernel
theorem dX8_fails_7 : decode cX8_fails 7 = .ok (.putfield 9, 3) := by decide +kernel
theorem dX8_fails_10 : decode cX8_fails 10 = .ok (.aload_n 0, 1) := by decide +kernel
theorem dX8_fails_11 : decode cX8_fails 11 = .ok (.iload_n 3, 1) := by decide +kernel
theorem dX8_fails_12 : decode cX8_fails 12 = .ok (.putfield 77, 3) := by decide +kernel
theorem dX8_fails_15 : decode cX8_fails 15 = .ok (.aload_n 0, 1) := by decide +kernel
theorem dX8_fails_16 : decode cX8_fails 16 = .ok (.getfield 13, 3) := by decide +kernel
theorem dX8_fails_19 : decode cX8_fails 19 = .ok (.iload_n 1, 1) := by decide +kernel
theorem dX8_fails_20 : decode cX8_fails 20 = .ok (.dup2, 1) := by decide +kernel
theorem dX8_fails_21 : decode cX8_fails 21 = .ok (.iaload, 1) := by decide +kernel
theorem dX8_fails_22 : decode cX8_fails 22 = .ok (.iconst 1, 1) := by decide +kernel
theorem dX8_fails_23 : decode cX8_fails 23 = .ok (.iadd, 1) := by decide +kernel
theorem dX8_fails_24 : decode cX8_fails 24 = .ok (.iastore, 1) := by decide +kernel
theorem dX8_fails_25 : decode cX8_fails 25 = .ok (.bipush (-4), 2) := by decide +kernel
theorem dX8_fails_27 : decode cX8_fails 27 = .ok (.ireturn, 1) := by decide +kernel
theorem dX8_cause_0 : decode cX8_cause 0 = .ok (.iload_n 1, 1) := by decide +kernel
theorem dX8_cause_1 : decode cX8_cause 1 = .ok (.ifCond .ne 10, 3) := by decide +kernel
theorem dX8_cause_4 : decode cX8_cause 4 = .ok (.aload_n 0, 1) := by decide +kernel
theorem dX8_cause_5 : decode cX8_cause 5 = .ok (.getfield 74, 3) := by decide +kernel
theorem dX8_cause_8 : decode cX8_cause 8 = .ok (.goto 29, 3) := by decide +kernel
theorem dX8_cause_11 : decode cX8_cause 11 = .ok (.iload_n 1, 1) := by decide +kernel
theorem dX8_cause_12 : decode cX8_cause 12 = .ok (.iconst 1, 1) := by decide +kernel
theorem dX8_cause_13 : decode cX8_cause 13 = .ok (.if_icmp .ne 10, 3) := by decide +kernel
theorem dX8_cause_16 : decode cX8_cause 16 = .ok (.aload_n 0, 1) := by decide +kernel
theorem dX8_cause_17 : decode cX8_cause 17 = .ok (.getfield 9, 3) := by decide +kernel
theorem dX8_cause_20 : decode cX8_cause 20 = .ok (.goto 17, 3) := by decide +kernel
theorem dX8_cause_23 : decode cX8_cause 23 = .ok (.iload_n 1, 1) := by decide +kernel
theorem dX8_cause_24 : decode cX8_cause 24 = .ok (.iconst 2, 1) := by decide +kernel
theorem dX8_cause_25 : decode cX8_cause 25 = .ok (.if_icmp .ne 10, 3) := by decide +kernel
theorem dX8_cause_28 : decode cX8_cause 28 = .ok (.aload_n 0, 1) := by decide +kernel
theorem dX8_cause_29 : decode cX8_cause 29 = .ok (.getfield 77, 3) := by decide +kernel
theorem dX8_cause_32 : decode cX8_cause 32 = .ok (.goto 5, 3) := by decide +kernel
theorem dX8_cause_35 : decode cX8_cause 35 = .ok (.bipush (-2), 2) := by decide +kernel
theorem dX8_cause_37 : decode cX8_cause 37 = .ok (.ireturn, 1) := by decide +kernel
theorem dX8_lay_0 : decode cX8_lay 0 = .ok (.aload_n 0, 1) := by decide +kernel
theorem dX8_lay_1 : decode cX8_lay 1 = .ok (.getfield 80, 3) := by decide +kernel
theorem dX8_lay_4 : decode cX8_lay 4 = .ok (.bipush 12, 2) := by decide +kernel
theorem dX8_lay_6 : decode cX8_lay 6 = .ok (.if_icmp .ne 6, 3) := by decide +kernel
theorem dX8_lay_9 : decode cX8_lay 9 = .ok (.bipush (-3), 2) := by decide +kernel
theorem dX8_lay_11 : decode cX8_lay 11 = .ok (.ireturn, 1) := by decide +kernel
theorem dX8_lay_12 : decode cX8_lay 12 = .ok (.aload_n 0, 1) := by decide +kernel
theorem dX8_lay_13 : decode cX8_lay 13 = .ok (.getfield 17, 3) := by decide +kernel
theorem dX8_lay_16 : decode cX8_lay 16 = .ok (.aload_n 0, 1) := by decide +kernel
theorem dX8_lay_17 : decode cX8_lay 17 = .ok (.getfield 80, 3) := by decide +kernel
theorem dX8_lay_20 : decode cX8_lay 20 = .ok (.iload_n 1, 1) := by decide +kernel
theorem dX8_lay_21 : decode cX8_lay 21 = .ok (.iastore, 1) := by decide +kernel
theorem dX8_lay_22 : decode cX8_lay 22 = .ok (.aload_n 0, 1) := by decide +kernel
theorem dX8_lay_23 : decode cX8_lay 23 = .ok (.dup, 1) := by decide +kernel
theorem dX8_lay_24 : decode cX8_lay 24 = .ok (.getfield 80, 3) := by decide +kernel
theorem dX8_lay_27 : decode cX8_lay 27 = .ok (.iconst 1, 1) := by decide +kernel
theorem dX8_lay_28 : decode cX8_lay 28 = .ok (.iadd, 1) := by decide +kernel
theorem dX8_lay_29 : decode cX8_lay 29 = .ok (.putfield 80, 3) := by decide +kernel
theorem dX8_lay_32 : decode cX8_lay 32 = .ok (.aload_n 0, 1) := by decide +kernel
theorem dX8_lay_33 : decode cX8_lay 33 = .ok (.getfield 80, 3) := by decide +kernel
theorem dX8_lay_36 : decode cX8_lay 36 = .ok (.ireturn, 1) := by decide +kernel
theorem dX8_wipe_0 : decode cX8_wipe 0 = .ok (.aload_n 0, 1) := by decide +kernel
theorem dX8_wipe_1 : decode cX8_wipe 1 = .ok (.getfield 80, 3) := by decide +kernel
theorem dX8_wipe_4 : decode cX8_wipe 4 = .ok (.istore_n 1, 1) := by decide +kernel
theorem dX8_wipe_5 : decode cX8_wipe 5 = .ok (.aload_n 0, 1) := by decide +kernel
theorem dX8_wipe_6 : decode cX8_wipe 6 = .ok (.iconst 0, 1) := by decide +kernel
theorem dX8_wipe_7 : decode cX8_wipe 7 = .ok (.putfield 80, 3) := by decide +kernel
theorem dX8_wipe_10 : decode cX8_wipe 10 = .ok (.iload_n 1, 1) := by decide +kernel
theorem dX8_wipe_11 : decode cX8_wipe 11 = .ok (.ireturn, 1) := by decide +kernel
theorem dX8_isFigure_0 : decode cX8_isFigure 0 = .ok (.iload_n 1, 1) := by decide +kernel
theorem dX8_isFigure_1 : decode cX8_isFigure 1 = .ok (.ifCond .lt 15, 3) := by decide +kernel
theorem dX8_isFigure_4 : decode cX8_isFigure 4 = .ok (.iload_n 1, 1) := by decide +kernel
theorem dX8_isFigure_5 : decode cX8_isFigure 5 = .ok (.aload_n 0, 1) := by decide +kernel
theorem dX8_isFigure_6 : decode cX8_isFigure 6 = .ok (.getfield 83, 3) := by decide +kernel
theorem dX8_isFigure_9 : decode cX8_isFigure 9 = .ok (.if_icmp .ge 7, 3) := by decide +kernel
theorem dX8_isFigure_12 : decode cX8_isFigure 12 = .ok (.iconst 1, 1) := by decide +kernel
theorem dX8_isFigure_13 : decode cX8_isFigure 13 = .ok (.goto 4, 3) := by decide +kernel
theorem dX8_isFigure_16 : decode cX8_isFigure 16 = .ok (.iconst 0, 1) := by decide +kernel
theorem dX8_isFigure_17 : decode cX8_isFigure 17 = .ok (.ireturn, 1) := by decide +kernel
theorem dX8_at_0 : decode cX8_at 0 = .ok (.iload_n 2, 1) := by decide +kernel
theorem dX8_at_1 : decode cX8_at 1 = .ok (.ifCond .lt 27, 3) := by decide +kernel
theorem dX8_at_4 : decode cX8_at 4 = .ok (.iload_n 2, 1) := by decide +kernel
theorem dX8_at_5 : decode cX8_at 5 = .ok (.aload_n 0, 1) := by decide +kernel
theorem dX8_at_6 : decode cX8_at 6 = .ok (.getfield 23, 3) := by decide +kernel
theorem dX8_at_9 : decode cX8_at 9 = .ok (.iload_n 1, 1) := by decide +kernel
theorem dX8_at_10 : decode cX8_at 10 = .ok (.iaload, 1) := by decide +kernel
theorem dX8_at_11 : decode cX8_at 11 = .ok (.if_icmp .ge 17, 3) := by decide +kernel
theorem dX8_at_14 : decode cX8_at 14 = .ok (.aload_n 0, 1) := by decide +kernel
theorem dX8_at_15 : decode cX8_at 15 = .ok (.getfield 26, 3) := by decide +kernel
theorem dX8_at_18 : decode cX8_at 18 = .ok (.bipush 16, 2) := by decide +kernel
theorem dX8_at_20 : decode cX8_at 20 = .ok (.iload_n 1, 1) := by decide +kernel
theorem dX8_at_21 : decode cX8_at 21 = .ok (.imul, 1) := by decide +kernel
theorem dX8_at_22 : decode cX8_at 22 = .ok (.iload_n 2, 1) := by decide +kernel
theorem dX8_at_23 : decode cX8_at 23 = .ok (.iadd, 1) := by decide +kernel
theorem dX8_at_24 : decode cX8_at 24 = .ok (.laload, 1) := by decide +kernel
theorem dX8_at_25 : decode cX8_at 25 = .ok (.goto 4, 3) := by decide +kernel
theorem dX8_at_28 : decode cX8_at 28 = .ok (.lload_n 3, 1) := by decide +kernel
theorem dX8_at_29 : decode cX8_at 29 = .ok (.lreturn, 1) := by decide +kernel
theorem dX8_cellOf_0 : decode cX8_cellOf 0 = .ok (.aload_n 0, 1) := by decide +kernel
theorem dX8_cellOf_1 : decode cX8_cellOf 1 = .ok (.getfield 26, 3) := by decide +kernel
theorem dX8_cellOf_4 : decode cX8_cellOf 4 = .ok (.bipush 16, 2) := by decide +kernel
theorem dX8_cellOf_6 : decode cX8_cellOf 6 = .ok (.iload_n 1, 1) := by decide +kernel
theorem dX8_cellOf_7 : decode cX8_cellOf 7 = .ok (.imul, 1) := by decide +kernel
theorem dX8_cellOf_8 : decode cX8_cellOf 8 = .ok (.iload_n 2, 1) := by decide +kernel
theorem dX8_cellOf_9 : decode cX8_cellOf 9 = .ok (.iadd, 1) := by decide +kernel
theorem dX8_cellOf_10 : decode cX8_cellOf 10 = .ok (.laload, 1) := by decide +kernel
theorem dX8_cellOf_11 : decode cX8_cellOf 11 = .ok (.lreturn, 1) := by decide +kernel
theorem dX8_start_0 : decode cX8_start 0 = .ok (.aload_n 0, 1) := by decide +kernel
theorem dX8_start_1 : decode cX8_start 1 = .ok (.getfield 20, 3) := by decide +kernel
theorem dX8_start_4 : decode cX8_start 4 = .ok (.aload_n 0, 1) := by decide +kernel
theorem dX8_start_5 : decode cX8_start 5 = .ok (.getfield 83, 3) := by decide +kernel
theorem dX8_start_8 : decode cX8_start 8 = .ok (.iload_n 1, 1) := by decide +kernel
theorem dX8_start_9 : decode cX8_start 9 = .ok (.iastore, 1) := by decide +kernel
theorem dX8_start_10 : decode cX8_start 10 = .ok (.aload_n 0, 1) := by decide +kernel
theorem dX8_start_11 : decode cX8_start 11 = .ok (.getfield 23, 3) := by decide +kernel
theorem dX8_start_14 : decode cX8_start 14 = .ok (.aload_n 0, 1) := by decide +kernel
theorem dX8_start_15 : decode cX8_start 15 = .ok (.getfield 83, 3) := by decide +kernel
theorem dX8_start_18 : decode cX8_start 18 = .ok (.iconst 0, 1) := by decide +kernel
theorem dX8_start_19 : decode cX8_start 19 = .ok (.iastore, 1) := by decide +kernel
theorem dX8_start_20 : decode cX8_start 20 = .ok (.return_, 1) := by decide +kernel
theorem dX8_part_0 : decode cX8_part 0 = .ok (.aload_n 0, 1) := by decide +kernel
theorem dX8_part_1 : decode cX8_part 1 = .ok (.getfield 26, 3) := by decide +kernel
theorem dX8_part_4 : decode cX8_part 4 = .ok (.bipush 16, 2) := by decide +kernel
theorem dX8_part_6 : decode cX8_part 6 = .ok (.aload_n 0, 1) := by decide +kernel
theorem dX8_part_7 : decode cX8_part 7 = .ok (.getfield 83, 3) := by decide +kernel
theorem dX8_part_10 : decode cX8_part 10 = .ok (.imul, 1) := by decide +kernel
theorem dX8_part_11 : decode cX8_part 11 = .ok (.aload_n 0, 1) := by decide +kernel
theorem dX8_part_12 : decode cX8_part 12 = .ok (.getfield 23, 3) := by decide +kernel
theorem dX8_part_15 : decode cX8_part 15 = .ok (.aload_n 0, 1) := by decide +kernel
theorem dX8_part_16 : decode cX8_part 16 = .ok (.getfield 83, 3) := by decide +kernel
theorem dX8_part_19 : decode cX8_part 19 = .ok (.iaload, 1) := by decide +kernel
theorem dX8_part_20 : decode cX8_part 20 = .ok (.iadd, 1) := by decide +kernel
theorem dX8_part_21 : decode cX8_part 21 = .ok (.lload_n 1, 1) := by decide +kernel
theorem dX8_part_22 : decode cX8_part 22 = .ok (.lastore, 1) := by decide +kernel
theorem dX8_part_23 : decode cX8_part 23 = .ok (.aload_n 0, 1) := by decide +kernel
theorem dX8_part_24 : decode cX8_part 24 = .ok (.getfield 23, 3) := by decide +kernel
theorem dX8_part_27 : decode cX8_part 27 = .ok (.aload_n 0, 1) := by decide +kernel
theorem dX8_part_28 : decode cX8_part 28 = .ok (.getfield 83, 3) := by decide +kernel
theorem dX8_part_31 : decode cX8_part 31 = .ok (.dup2, 1) := by decide +kernel
theorem dX8_part_32 : decode cX8_part 32 = .ok (.iaload, 1) := by decide +kernel
theorem dX8_part_33 : decode cX8_part 33 = .ok (.iconst 1, 1) := by decide +kernel
theorem dX8_part_34 : decode cX8_part 34 = .ok (.iadd, 1) := by decide +kernel
theorem dX8_part_35 : decode cX8_part 35 = .ok (.iastore, 1) := by decide +kernel
theorem dX8_part_36 : decode cX8_part 36 = .ok (.return_, 1) := by decide +kernel
theorem dX8_isFigurePart_0 : decode cX8_isFigurePart 0 = .ok (.aload_n 0, 1) := by decide +kernel
theorem dX8_isFigurePart_1 : decode cX8_isFigurePart 1 = .ok (.getfield 20, 3) := by decide +kernel
theorem dX8_isFigurePart_4 : decode cX8_isFigurePart 4 = .ok (.iload_n 1, 1) := by decide +kernel
theorem dX8_isFigurePart_5 : decode cX8_isFigurePart 5 = .ok (.iaload, 1) := by decide +kernel
theorem dX8_isFigurePart_6 : decode cX8_isFigurePart 6 = .ok (.iconst 4, 1) := by decide +kernel
theorem dX8_isFigurePart_7 : decode cX8_isFigurePart 7 = .ok (.if_icmp .ne 7, 3) := by decide +kernel
theorem dX8_isFigurePart_10 : decode cX8_isFigurePart 10 = .ok (.iconst 1, 1) := by decide +kernel
theorem dX8_isFigurePart_11 : decode cX8_isFigurePart 11 = .ok (.goto 4, 3) := by decide +kernel
theorem dX8_isFigurePart_14 : decode cX8_isFigurePart 14 = .ok (.iconst 0, 1) := by decide +kernel
theorem dX8_isFigurePart_15 : decode cX8_isFigurePart 15 = .ok (.ireturn, 1) := by decide +kernel
theorem dX8_leastLike_0 : decode cX8_leastLike 0 = .ok (.iconst 0, 1) := by decide +kernel
theorem dX8_leastLike_1 : decode cX8_leastLike 1 = .ok (.istore_n 2, 1) := by decide +kernel
theorem dX8_leastLike_2 : decode cX8_leastLike 2 = .ok (.iload_n 2, 1) := by decide +kernel
theorem dX8_leastLike_3 : decode cX8_leastLike 3 = .ok (.iload_n 1, 1) := by decide +kernel
theorem dX8_leastLike_4 : decode cX8_leastLike 4 = .ok (.if_icmp .ge 151, 3) := by decide +kernel
theorem dX8_leastLike_7 : decode cX8_leastLike 7 = .ok (.aload_n 0, 1) := by decide +kernel
theorem dX8_leastLike_8 : decode cX8_leastLike 8 = .ok (.getfield 20, 3) := by decide +kernel
theorem dX8_leastLike_11 : decode cX8_leastLike 11 = .ok (.iload_n 2, 1) := by decide +kernel
theorem dX8_leastLike_12 : decode cX8_leastLike 12 = .ok (.iaload, 1) := by decide +kernel
theorem dX8_leastLike_13 : decode cX8_leastLike 13 = .ok (.aload_n 0, 1) := by decide +kernel
theorem dX8_leastLike_14 : decode cX8_leastLike 14 = .ok (.getfield 20, 3) := by decide +kernel
theorem dX8_leastLike_17 : decode cX8_leastLike 17 = .ok (.iload_n 1, 1) := by decide +kernel
theorem dX8_leastLike_18 : decode cX8_leastLike 18 = .ok (.iaload, 1) := by decide +kernel
theorem dX8_leastLike_19 : decode cX8_leastLike 19 = .ok (.if_icmp .ne 33, 3) := by decide +kernel
theorem dX8_leastLike_22 : decode cX8_leastLike 22 = .ok (.aload_n 0, 1) := by decide +kernel
theorem dX8_leastLike_23 : decode cX8_leastLike 23 = .ok (.getfield 20, 3) := by decide +kernel
theorem dX8_leastLike_26 : decode cX8_leastLike 26 = .ok (.iload_n 1, 1) := by decide +kernel
theorem dX8_leastLike_27 : decode cX8_leastLike 27 = .ok (.iaload, 1) := by decide +kernel
theorem dX8_leastLike_28 : decode cX8_leastLike 28 = .ok (.bipush 6, 2) := by decide +kernel
theorem dX8_leastLike_30 : decode cX8_leastLike 30 = .ok (.if_icmp .eq 22, 3) := by decide +kernel
theorem dX8_leastLike_33 : decode cX8_leastLike 33 = .ok (.aload_n 0, 1) := by decide +kernel
theorem dX8_leastLike_34 : decode cX8_leastLike 34 = .ok (.getfield 23, 3) := by decide +kernel
theorem dX8_leastLike_37 : decode cX8_leastLike 37 = .ok (.iload_n 2, 1) := by decide +kernel
theorem dX8_leastLike_38 : decode cX8_leastLike 38 = .ok (.iaload, 1) := by decide +kernel
theorem dX8_leastLike_39 : decode cX8_leastLike 39 = .ok (.aload_n 0, 1) := by decide +kernel
theorem dX8_leastLike_40 : decode cX8_leastLike 40 = .ok (.getfield 23, 3) := by decide +kernel
theorem dX8_leastLike_43 : decode cX8_leastLike 43 = .ok (.iload_n 1, 1) := by decide +kernel
theorem dX8_leastLike_44 : decode cX8_leastLike 44 = .ok (.iaload, 1) := by decide +kernel
theorem dX8_leastLike_45 : decode cX8_leastLike 45 = .ok (.if_icmp .ne 7, 3) := by decide +kernel
theorem dX8_leastLike_48 : decode cX8_leastLike 48 = .ok (.iconst 1, 1) := by decide +kernel
theorem dX8_leastLike_49 : decode cX8_leastLike 49 = .ok (.goto 4, 3) := by decide +kernel
theorem dX8_leastLike_52 : decode cX8_leastLike 52 = .ok (.iconst 0, 1) := by decide +kernel
theorem dX8_leastLike_53 : decode cX8_leastLike 53 = .ok (.istore_n 3, 1) := by decide +kernel
theorem dX8_leastLike_54 : decode cX8_leastLike 54 = .ok (.iconst 0, 1) := by decide +kernel
theorem dX8_leastLike_55 : decode cX8_leastLike 55 = .ok (.istore 4, 2) := by decide +kernel
theorem dX8_leastLike_57 : decode cX8_leastLike 57 = .ok (.iload_n 3, 1) := by decide +kernel
theorem dX8_leastLike_58 : decode cX8_leastLike 58 = .ok (.ifCond .eq 85, 3) := by decide +kernel
theorem dX8_leastLike_61 : decode cX8_leastLike 61 = .ok (.iload 4, 2) := by decide +kernel
theorem dX8_leastLike_63 : decode cX8_leastLike 63 = .ok (.aload_n 0, 1) := by decide +kernel
theorem dX8_leastLike_64 : decode cX8_leastLike 64 = .ok (.getfield 23, 3) := by decide +kernel
theorem dX8_leastLike_67 : decode cX8_leastLike 67 = .ok (.iload_n 1, 1) := by decide +kernel
theorem dX8_leastLike_68 : decode cX8_leastLike 68 = .ok (.iaload, 1) := by decide +kernel
theorem dX8_leastLike_69 : decode cX8_leastLike 69 = .ok (.if_icmp .ge 74, 3) := by decide +kernel
theorem dX8_leastLike_72 : decode cX8_leastLike 72 = .ok (.aload_n 0, 1) := by decide +kernel
theorem dX8_leastLike_73 : decode cX8_leastLike 73 = .ok (.iload_n 1, 1) := by decide +kernel
theorem dX8_leastLike_74 : decode cX8_leastLike 74 = .ok (.invokevirtual 86, 3) := by decide +kernel
theorem dX8_leastLike_77 : decode cX8_leastLike 77 = .ok (.ifCond .eq 36, 3) := by decide +kernel
theorem dX8_leastLike_80 : decode cX8_leastLike 80 = .ok (.aload_n 0, 1) := by decide +kernel
theorem dX8_leastLike_81 : decode cX8_leastLike 81 = .ok (.aload_n 0, 1) := by decide +kernel
theorem dX8_leastLike_82 : decode cX8_leastLike 82 = .ok (.iload_n 2, 1) := by decide +kernel
theorem dX8_leastLike_83 : decode cX8_leastLike 83 = .ok (.iload 4, 2) := by decide +kernel
theorem dX8_leastLike_85 : decode cX8_leastLike 85 = .ok (.invokevirtual 90, 3) := by decide +kernel
theorem dX8_leastLike_88 : decode cX8_leastLike 88 = .ok (.invokevirtual 94, 3) := by decide +kernel
theorem dX8_leastLike_91 : decode cX8_leastLike 91 = .ok (.aload_n 0, 1) := by decide +kernel
theorem dX8_leastLike_92 : decode cX8_leastLike 92 = .ok (.aload_n 0, 1) := by decide +kernel
theorem dX8_leastLike_93 : decode cX8_leastLike 93 = .ok (.iload_n 1, 1) := by decide +kernel
theorem dX8_leastLike_94 : decode cX8_leastLike 94 = .ok (.iload 4, 2) := by decide +kernel
theorem dX8_leastLike_96 : decode cX8_leastLike 96 = .ok (.invokevirtual 90, 3) := by decide +kernel
theorem dX8_leastLike_99 : decode cX8_leastLike 99 = .ok (.invokevirtual 94, 3) := by decide +kernel
theorem dX8_leastLike_102 : decode cX8_leastLike 102 = .ok (.if_icmp .ne 7, 3) := by decide +kernel
theorem dX8_leastLike_105 : decode cX8_leastLike 105 = .ok (.iconst 1, 1) := by decide +kernel
theorem dX8_leastLike_106 : decode cX8_leastLike 106 = .ok (.goto 30, 3) := by decide +kernel
theorem dX8_leastLike_109 : decode cX8_leastLike 109 = .ok (.iconst 0, 1) := by decide +kernel
theorem dX8_leastLike_110 : decode cX8_leastLike 110 = .ok (.goto 26, 3) := by decide +kernel
theorem dX8_leastLike_113 : decode cX8_leastLike 113 = .ok (.aload_n 0, 1) := by decide +kernel
theorem dX8_leastLike_114 : decode cX8_leastLike 114 = .ok (.iload_n 2, 1) := by decide +kernel
theorem dX8_leastLike_115 : decode cX8_leastLike 115 = .ok (.iload 4, 2) := by decide +kernel
theorem dX8_leastLike_117 : decode cX8_leastLike 117 = .ok (.invokevirtual 90, 3) := by decide +kernel
theorem dX8_leastLike_120 : decode cX8_leastLike 120 = .ok (.aload_n 0, 1) := by decide +kernel
theorem dX8_leastLike_121 : decode cX8_leastLike 121 = .ok (.iload_n 1, 1) := by decide +kernel
theorem dX8_leastLike_122 : decode cX8_leastLike 122 = .ok (.iload 4, 2) := by decide +kernel
theorem dX8_leastLike_124 : decode cX8_leastLike 124 = .ok (.invokevirtual 90, 3) := by decide +kernel
theorem dX8_leastLike_127 : decode cX8_leastLike 127 = .ok (.lcmp, 1) := by decide +kernel
theorem dX8_leastLike_128 : decode cX8_leastLike 128 = .ok (.ifCond .ne 7, 3) := by decide +kernel
theorem dX8_leastLike_131 : decode cX8_leastLike 131 = .ok (.iconst 1, 1) := by decide +kernel
theorem dX8_leastLike_132 : decode cX8_leastLike 132 = .ok (.goto 4, 3) := by decide +kernel
theorem dX8_leastLike_135 : decode cX8_leastLike 135 = .ok (.iconst 0, 1) := by decide +kernel
theorem dX8_leastLike_136 : decode cX8_leastLike 136 = .ok (.istore_n 3, 1) := by decide +kernel
theorem dX8_leastLike_137 : decode cX8_leastLike 137 = .ok (.iinc 4 1, 3) := by decide +kernel
theorem dX8_leastLike_140 : decode cX8_leastLike 140 = .ok (.goto (-83), 3) := by decide +kernel
theorem dX8_leastLike_143 : decode cX8_leastLike 143 = .ok (.iload_n 3, 1) := by decide +kernel
theorem dX8_leastLike_144 : decode cX8_leastLike 144 = .ok (.ifCond .eq 5, 3) := by decide +kernel
theorem dX8_leastLike_147 : decode cX8_leastLike 147 = .ok (.iload_n 2, 1) := by decide +kernel
theorem dX8_leastLike_148 : decode cX8_leastLike 148 = .ok (.ireturn, 1) := by decide +kernel
theorem dX8_leastLike_149 : decode cX8_leastLike 149 = .ok (.iinc 2 1, 3) := by decide +kernel
theorem dX8_leastLike_152 : decode cX8_leastLike 152 = .ok (.goto (-150), 3) := by decide +kernel
theorem dX8_leastLike_155 : decode cX8_leastLike 155 = .ok (.iload_n 1, 1) := by decide +kernel
theorem dX8_leastLike_156 : decode cX8_leastLike 156 = .ok (.ireturn, 1) := by decide +kernel
theorem dX8_likeOf_0 : decode cX8_likeOf 0 = .ok (.lload_n 1, 1) := by decide +kernel
theorem dX8_likeOf_1 : decode cX8_likeOf 1 = .ok (.ldc2_w 98, 3) := by decide +kernel
theorem dX8_likeOf_4 : decode cX8_likeOf 4 = .ok (.lcmp, 1) := by decide +kernel
theorem dX8_likeOf_5 : decode cX8_likeOf 5 = .ok (.ifCond .ne 7, 3) := by decide +kernel
theorem dX8_likeOf_8 : decode cX8_likeOf 8 = .ok (.iconst (-1), 1) := by decide +kernel
theorem dX8_likeOf_9 : decode cX8_likeOf 9 = .ok (.goto 10, 3) := by decide +kernel
theorem dX8_likeOf_12 : decode cX8_likeOf 12 = .ok (.aload_n 0, 1) := by decide +kernel
theorem dX8_likeOf_13 : decode cX8_likeOf 13 = .ok (.getfield 34, 3) := by decide +kernel
theorem dX8_likeOf_16 : decode cX8_likeOf 16 = .ok (.lload_n 1, 1) := by decide +kernel
theorem dX8_likeOf_17 : decode cX8_likeOf 17 = .ok (.l2i, 1) := by decide +kernel
theorem dX8_likeOf_18 : decode cX8_likeOf 18 = .ok (.iaload, 1) := by decide +kernel
theorem dX8_likeOf_19 : decode cX8_likeOf 19 = .ok (.ireturn, 1) := by decide +kernel
theorem dX8_folded_0 : decode cX8_folded 0 = .ok (.lload_n 0, 1) := by decide +kernel
theorem dX8_folded_1 : decode cX8_folded 1 = .ok (.l2i, 1) := by decide +kernel
theorem dX8_folded_2 : decode cX8_folded 2 = .ok (.lload_n 0, 1) := by decide +kernel
theorem dX8_folded_3 : decode cX8_folded 3 = .ok (.bipush 32, 2) := by decide +kernel
theorem dX8_folded_5 : decode cX8_folded 5 = .ok (.lushr, 1) := by decide +kernel
theorem dX8_folded_6 : decode cX8_folded 6 = .ok (.l2i, 1) := by decide +kernel
theorem dX8_folded_7 : decode cX8_folded 7 = .ok (.ixor, 1) := by decide +kernel
theorem dX8_folded_8 : decode cX8_folded 8 = .ok (.ireturn, 1) := by decide +kernel
theorem dX8_hashOf_0 : decode cX8_hashOf 0 = .ok (.aload_n 0, 1) := by decide +kernel
theorem dX8_hashOf_1 : decode cX8_hashOf 1 = .ok (.getfield 20, 3) := by decide +kernel
theorem dX8_hashOf_4 : decode cX8_hashOf 4 = .ok (.iload_n 1, 1) := by decide +kernel
theorem dX8_hashOf_5 : decode cX8_hashOf 5 = .ok (.iaload, 1) := by decide +kernel
theorem dX8_hashOf_6 : decode cX8_hashOf 6 = .ok (.istore_n 2, 1) := by decide +kernel
theorem dX8_hashOf_7 : decode cX8_hashOf 7 = .ok (.aload_n 0, 1) := by decide +kernel
theorem dX8_hashOf_8 : decode cX8_hashOf 8 = .ok (.getfield 20, 3) := by decide +kernel
theorem dX8_hashOf_11 : decode cX8_hashOf 11 = .ok (.iload_n 1, 1) := by decide +kernel
theorem dX8_hashOf_12 : decode cX8_hashOf 12 = .ok (.iaload, 1) := by decide +kernel
theorem dX8_hashOf_13 : decode cX8_hashOf 13 = .ok (.bipush 6, 2) := by decide +kernel
theorem dX8_hashOf_15 : decode cX8_hashOf 15 = .ok (.if_icmp .ne 14, 3) := by decide +kernel
theorem dX8_hashOf_18 : decode cX8_hashOf 18 = .ok (.bipush 31, 2) := by decide +kernel
theorem dX8_hashOf_20 : decode cX8_hashOf 20 = .ok (.iload_n 2, 1) := by decide +kernel
theorem dX8_hashOf_21 : decode cX8_hashOf 21 = .ok (.imul, 1) := by decide +kernel
theorem dX8_hashOf_22 : decode cX8_hashOf 22 = .ok (.iload_n 1, 1) := by decide +kernel
theorem dX8_hashOf_23 : decode cX8_hashOf 23 = .ok (.i2l, 1) := by decide +kernel
theorem dX8_hashOf_24 : decode cX8_hashOf 24 = .ok (.invokestatic 100, 3) := by decide +kernel
theorem dX8_hashOf_27 : decode cX8_hashOf 27 = .ok (.iadd, 1) := by decide +kernel
theorem dX8_hashOf_28 : decode cX8_hashOf 28 = .ok (.ireturn, 1) := by decide +kernel
theorem dX8_hashOf_29 : decode cX8_hashOf 29 = .ok (.iconst 0, 1) := by decide +kernel
theorem dX8_hashOf_30 : decode cX8_hashOf 30 = .ok (.istore_n 3, 1) := by decide +kernel
theorem dX8_hashOf_31 : decode cX8_hashOf 31 = .ok (.iload_n 3, 1) := by decide +kernel
theorem dX8_hashOf_32 : decode cX8_hashOf 32 = .ok (.aload_n 0, 1) := by decide +kernel
theorem dX8_hashOf_33 : decode cX8_hashOf 33 = .ok (.getfield 23, 3) := by decide +kernel
theorem dX8_hashOf_36 : decode cX8_hashOf 36 = .ok (.iload_n 1, 1) := by decide +kernel
theorem dX8_hashOf_37 : decode cX8_hashOf 37 = .ok (.iaload, 1) := by decide +kernel
theorem dX8_hashOf_38 : decode cX8_hashOf 38 = .ok (.if_icmp .ge 60, 3) := by decide +kernel
theorem dX8_hashOf_41 : decode cX8_hashOf 41 = .ok (.aload_n 0, 1) := by decide +kernel
theorem dX8_hashOf_42 : decode cX8_hashOf 42 = .ok (.iload_n 1, 1) := by decide +kernel
theorem dX8_hashOf_43 : decode cX8_hashOf 43 = .ok (.iload_n 3, 1) := by decide +kernel
theorem dX8_hashOf_44 : decode cX8_hashOf 44 = .ok (.invokevirtual 90, 3) := by decide +kernel
theorem dX8_hashOf_47 : decode cX8_hashOf 47 = .ok (.lstore 4, 2) := by decide +kernel
theorem dX8_hashOf_49 : decode cX8_hashOf 49 = .ok (.bipush 31, 2) := by decide +kernel
theorem dX8_hashOf_51 : decode cX8_hashOf 51 = .ok (.iload_n 2, 1) := by decide +kernel
theorem dX8_hashOf_52 : decode cX8_hashOf 52 = .ok (.imul, 1) := by decide +kernel
theorem dX8_hashOf_53 : decode cX8_hashOf 53 = .ok (.aload_n 0, 1) := by decide +kernel
theorem dX8_hashOf_54 : decode cX8_hashOf 54 = .ok (.iload_n 1, 1) := by decide +kernel
theorem dX8_hashOf_55 : decode cX8_hashOf 55 = .ok (.invokevirtual 86, 3) := by decide +kernel
theorem dX8_hashOf_58 : decode cX8_hashOf 58 = .ok (.ifCond .eq 27, 3) := by decide +kernel
theorem dX8_hashOf_61 : decode cX8_hashOf 61 = .ok (.lload 4, 2) := by decide +kernel
theorem dX8_hashOf_63 : decode cX8_hashOf 63 = .ok (.ldc2_w 98, 3) := by decide +kernel
theorem dX8_hashOf_66 : decode cX8_hashOf 66 = .ok (.lcmp, 1) := by decide +kernel
theorem dX8_hashOf_67 : decode cX8_hashOf 67 = .ok (.ifCond .ne 7, 3) := by decide +kernel
theorem dX8_hashOf_70 : decode cX8_hashOf 70 = .ok (.iconst 0, 1) := by decide +kernel
theorem dX8_hashOf_71 : decode cX8_hashOf 71 = .ok (.goto 19, 3) := by decide +kernel
theorem dX8_hashOf_74 : decode cX8_hashOf 74 = .ok (.aload_n 0, 1) := by decide +kernel
theorem dX8_hashOf_75 : decode cX8_hashOf 75 = .ok (.getfield 37, 3) := by decide +kernel
theorem dX8_hashOf_78 : decode cX8_hashOf 78 = .ok (.lload 4, 2) := by decide +kernel
theorem dX8_hashOf_80 : decode cX8_hashOf 80 = .ok (.l2i, 1) := by decide +kernel
theorem dX8_hashOf_81 : decode cX8_hashOf 81 = .ok (.iaload, 1) := by decide +kernel
theorem dX8_hashOf_82 : decode cX8_hashOf 82 = .ok (.goto 8, 3) := by decide +kernel
theorem dX8_hashOf_85 : decode cX8_hashOf 85 = .ok (.lload 4, 2) := by decide +kernel
theorem dX8_hashOf_87 : decode cX8_hashOf 87 = .ok (.invokestatic 100, 3) := by decide +kernel
theorem dX8_hashOf_90 : decode cX8_hashOf 90 = .ok (.iadd, 1) := by decide +kernel
theorem dX8_hashOf_91 : decode cX8_hashOf 91 = .ok (.istore_n 2, 1) := by decide +kernel
theorem dX8_hashOf_92 : decode cX8_hashOf 92 = .ok (.iinc 3 1, 3) := by decide +kernel
theorem dX8_hashOf_95 : decode cX8_hashOf 95 = .ok (.goto (-64), 3) := by decide +kernel
theorem dX8_hashOf_98 : decode cX8_hashOf 98 = .ok (.iload_n 2, 1) := by decide +kernel
theorem dX8_hashOf_99 : decode cX8_hashOf 99 = .ok (.ireturn, 1) := by decide +kernel
theorem dX8_made_0 : decode cX8_made 0 = .ok (.aload_n 0, 1) := by decide +kernel
theorem dX8_made_1 : decode cX8_made 1 = .ok (.getfield 34, 3) := by decide +kernel
theorem dX8_made_4 : decode cX8_made 4 = .ok (.aload_n 0, 1) := by decide +kernel
theorem dX8_made_5 : decode cX8_made 5 = .ok (.getfield 83, 3) := by decide +kernel
theorem dX8_made_8 : decode cX8_made 8 = .ok (.aload_n 0, 1) := by decide +kernel
theorem dX8_made_9 : decode cX8_made 9 = .ok (.aload_n 0, 1) := by decide +kernel
theorem dX8_made_10 : decode cX8_made 10 = .ok (.getfield 83, 3) := by decide +kernel
theorem dX8_made_13 : decode cX8_made 13 = .ok (.invokevirtual 103, 3) := by decide +kernel
theorem dX8_made_16 : decode cX8_made 16 = .ok (.iastore, 1) := by decide +kernel
theorem dX8_made_17 : decode cX8_made 17 = .ok (.aload_n 0, 1) := by decide +kernel
theorem dX8_made_18 : decode cX8_made 18 = .ok (.getfield 37, 3) := by decide +kernel
theorem dX8_made_21 : decode cX8_made 21 = .ok (.aload_n 0, 1) := by decide +kernel
theorem dX8_made_22 : decode cX8_made 22 = .ok (.getfield 83, 3) := by decide +kernel
theorem dX8_made_25 : decode cX8_made 25 = .ok (.aload_n 0, 1) := by decide +kernel
theorem dX8_made_26 : decode cX8_made 26 = .ok (.aload_n 0, 1) := by decide +kernel
theorem dX8_made_27 : decode cX8_made 27 = .ok (.getfield 83, 3) := by decide +kernel
theorem dX8_made_30 : decode cX8_made 30 = .ok (.invokevirtual 107, 3) := by decide +kernel
theorem dX8_made_33 : decode cX8_made 33 = .ok (.iastore, 1) := by decide +kernel
theorem dX8_made_34 : decode cX8_made 34 = .ok (.aload_n 0, 1) := by decide +kernel
theorem dX8_made_35 : decode cX8_made 35 = .ok (.dup, 1) := by decide +kernel
theorem dX8_made_36 : decode cX8_made 36 = .ok (.getfield 83, 3) := by decide +kernel
theorem dX8_made_39 : decode cX8_made 39 = .ok (.iconst 1, 1) := by decide +kernel
theorem dX8_made_40 : decode cX8_made 40 = .ok (.iadd, 1) := by decide +kernel
theorem dX8_made_41 : decode cX8_made 41 = .ok (.putfield 83, 3) := by decide +kernel
theorem dX8_made_44 : decode cX8_made 44 = .ok (.aload_n 0, 1) := by decide +kernel
theorem dX8_made_45 : decode cX8_made 45 = .ok (.getfield 83, 3) := by decide +kernel
theorem dX8_made_48 : decode cX8_made 48 = .ok (.iconst 1, 1) := by decide +kernel
theorem dX8_made_49 : decode cX8_made 49 = .ok (.isub, 1) := by decide +kernel
theorem dX8_made_50 : decode cX8_made 50 = .ok (.ireturn, 1) := by decide +kernel
theorem dX8_clean_0 : decode cX8_clean 0 = .ok (.lload_n 0, 1) := by decide +kernel
theorem dX8_clean_1 : decode cX8_clean 1 = .ok (.ldc2_w 110, 3) := by decide +kernel
theorem dX8_clean_4 : decode cX8_clean 4 = .ok (.land, 1) := by decide +kernel
theorem dX8_clean_5 : decode cX8_clean 5 = .ok (.ldc2_w 112, 3) := by decide +kernel
theorem dX8_clean_8 : decode cX8_clean 8 = .ok (.lcmp, 1) := by decide +kernel
theorem dX8_clean_9 : decode cX8_clean 9 = .ok (.ifCond .le 9, 3) := by decide +kernel
theorem dX8_clean_12 : decode cX8_clean 12 = .ok (.ldc2_w 114, 3) := by decide +kernel
theorem dX8_clean_15 : decode cX8_clean 15 = .ok (.goto 4, 3) := by decide +kernel
theorem dX8_clean_18 : decode cX8_clean 18 = .ok (.lload_n 0, 1) := by decide +kernel
theorem dX8_clean_19 : decode cX8_clean 19 = .ok (.lreturn, 1) := by decide +kernel
theorem dX8_point_0 : decode cX8_point 0 = .ok (.aload_n 0, 1) := by decide +kernel
theorem dX8_point_1 : decode cX8_point 1 = .ok (.invokevirtual 116, 3) := by decide +kernel
theorem dX8_point_4 : decode cX8_point 4 = .ok (.aload_n 0, 1) := by decide +kernel
theorem dX8_point_5 : decode cX8_point 5 = .ok (.getfield 83, 3) := by decide +kernel
theorem dX8_point_8 : decode cX8_point 8 = .ok (.bipush 60, 2) := by decide +kernel
theorem dX8_point_10 : decode cX8_point 10 = .ok (.if_icmp .ne 6, 3) := by decide +kernel
theorem dX8_point_13 : decode cX8_point 13 = .ok (.bipush (-3), 2) := by decide +kernel
theorem dX8_point_15 : decode cX8_point 15 = .ok (.ireturn, 1) := by decide +kernel
theorem dX8_point_16 : decode cX8_point 16 = .ok (.aload_n 0, 1) := by decide +kernel
theorem dX8_point_17 : decode cX8_point 17 = .ok (.iconst 0, 1) := by decide +kernel
theorem dX8_point_18 : decode cX8_point 18 = .ok (.invokevirtual 119, 3) := by decide +kernel
theorem dX8_point_21 : decode cX8_point 21 = .ok (.aload_n 0, 1) := by decide +kernel
theorem dX8_point_22 : decode cX8_point 22 = .ok (.lload_n 1, 1) := by decide +kernel
theorem dX8_point_23 : decode cX8_point 23 = .ok (.invokestatic 123, 3) := by decide +kernel
theorem dX8_point_26 : decode cX8_point 26 = .ok (.invokevirtual 127, 3) := by decide +kernel
theorem dX8_point_29 : decode cX8_point 29 = .ok (.aload_n 0, 1) := by decide +kernel
theorem dX8_point_30 : decode cX8_point 30 = .ok (.lload_n 3, 1) := by decide +kernel
theorem dX8_point_31 : decode cX8_point 31 = .ok (.invokestatic 123, 3) := by decide +kernel
theorem dX8_point_34 : decode cX8_point 34 = .ok (.invokevirtual 127, 3) := by decide +kernel
theorem dX8_point_37 : decode cX8_point 37 = .ok (.aload_n 0, 1) := by decide +kernel
theorem dX8_point_38 : decode cX8_point 38 = .ok (.invokevirtual 131, 3) := by decide +kernel
theorem dX8_point_41 : decode cX8_point 41 = .ok (.ireturn, 1) := by decide +kernel
theorem dX8_span_0 : decode cX8_span 0 = .ok (.aload_n 0, 1) := by decide +kernel
theorem dX8_span_1 : decode cX8_span 1 = .ok (.invokevirtual 116, 3) := by decide +kernel
theorem dX8_span_4 : decode cX8_span 4 = .ok (.aload_n 0, 1) := by decide +kernel
theorem dX8_span_5 : decode cX8_span 5 = .ok (.getfield 83, 3) := by decide +kernel
theorem dX8_span_8 : decode cX8_span 8 = .ok (.bipush 60, 2) := by decide +kernel
theorem dX8_span_10 : decode cX8_span 10 = .ok (.if_icmp .ne 6, 3) := by decide +kernel
theorem dX8_span_13 : decode cX8_span 13 = .ok (.bipush (-3), 2) := by decide +kernel
theorem dX8_span_15 : decode cX8_span 15 = .ok (.ireturn, 1) := by decide +kernel
theorem dX8_span_16 : decode cX8_span 16 = .ok (.iload_n 1, 1) := by decide +kernel
theorem dX8_span_17 : decode cX8_span 17 = .ok (.iload_n 2, 1) := by decide +kernel
theorem dX8_span_18 : decode cX8_span 18 = .ok (.if_icmp .le 12, 3) := by decide +kernel
theorem dX8_span_21 : decode cX8_span 21 = .ok (.aload_n 0, 1) := by decide +kernel
theorem dX8_span_22 : decode cX8_span 22 = .ok (.bipush 7, 2) := by decide +kernel
theorem dX8_span_24 : decode cX8_span 24 = .ok (.iconst 1, 1) := by decide +kernel
theorem dX8_span_25 : decode cX8_span 25 = .ok (.iconst 1, 1) := by decide +kernel
theorem dX8_span_26 : decode cX8_span 26 = .ok (.invokevirtual 135, 3) := by decide +kernel
theorem dX8_span_29 : decode cX8_span 29 = .ok (.ireturn, 1) := by decide +kernel
theorem dX8_span_30 : decode cX8_span 30 = .ok (.aload_n 0, 1) := by decide +kernel
theorem dX8_span_31 : decode cX8_span 31 = .ok (.iconst 1, 1) := by decide +kernel
theorem dX8_span_32 : decode cX8_span 32 = .ok (.invokevirtual 119, 3) := by decide +kernel
theorem dX8_span_35 : decode cX8_span 35 = .ok (.aload_n 0, 1) := by decide +kernel
theorem dX8_span_36 : decode cX8_span 36 = .ok (.iload_n 1, 1) := by decide +kernel
theorem dX8_span_37 : decode cX8_span 37 = .ok (.i2l, 1) := by decide +kernel
theorem dX8_span_38 : decode cX8_span 38 = .ok (.invokevirtual 127, 3) := by decide +kernel
theorem dX8_span_41 : decode cX8_span 41 = .ok (.aload_n 0, 1) := by decide +kernel
theorem dX8_span_42 : decode cX8_span 42 = .ok (.iload_n 2, 1) := by decide +kernel
theorem dX8_span_43 : decode cX8_span 43 = .ok (.i2l, 1) := by decide +kernel
theorem dX8_span_44 : decode cX8_span 44 = .ok (.invokevirtual 127, 3) := by decide +kernel
theorem dX8_span_47 : decode cX8_span 47 = .ok (.aload_n 0, 1) := by decide +kernel
theorem dX8_span_48 : decode cX8_span 48 = .ok (.invokevirtual 131, 3) := by decide +kernel
theorem dX8_span_51 : decode cX8_span 51 = .ok (.ireturn, 1) := by decide +kernel
theorem dX8_wide_0 : decode cX8_wide 0 = .ok (.aload_n 0, 1) := by decide +kernel
theorem dX8_wide_1 : decode cX8_wide 1 = .ok (.invokevirtual 116, 3) := by decide +kernel
theorem dX8_wide_4 : decode cX8_wide 4 = .ok (.aload_n 0, 1) := by decide +kernel
theorem dX8_wide_5 : decode cX8_wide 5 = .ok (.getfield 83, 3) := by decide +kernel
theorem dX8_wide_8 : decode cX8_wide 8 = .ok (.bipush 60, 2) := by decide +kernel
theorem dX8_wide_10 : decode cX8_wide 10 = .ok (.if_icmp .ne 6, 3) := by decide +kernel
theorem dX8_wide_13 : decode cX8_wide 13 = .ok (.bipush (-3), 2) := by decide +kernel
theorem dX8_wide_15 : decode cX8_wide 15 = .ok (.ireturn, 1) := by decide +kernel
theorem dX8_wide_16 : decode cX8_wide 16 = .ok (.iload_n 1, 1) := by decide +kernel
theorem dX8_wide_17 : decode cX8_wide 17 = .ok (.iload_n 2, 1) := by decide +kernel
theorem dX8_wide_18 : decode cX8_wide 18 = .ok (.if_icmp .le 12, 3) := by decide +kernel
theorem dX8_wide_21 : decode cX8_wide 21 = .ok (.aload_n 0, 1) := by decide +kernel
theorem dX8_wide_22 : decode cX8_wide 22 = .ok (.bipush 7, 2) := by decide +kernel
theorem dX8_wide_24 : decode cX8_wide 24 = .ok (.iconst 1, 1) := by decide +kernel
theorem dX8_wide_25 : decode cX8_wide 25 = .ok (.iconst 1, 1) := by decide +kernel
theorem dX8_wide_26 : decode cX8_wide 26 = .ok (.invokevirtual 135, 3) := by decide +kernel
theorem dX8_wide_29 : decode cX8_wide 29 = .ok (.ireturn, 1) := by decide +kernel
theorem dX8_wide_30 : decode cX8_wide 30 = .ok (.iload_n 3, 1) := by decide +kernel
theorem dX8_wide_31 : decode cX8_wide 31 = .ok (.ifCond .ne 12, 3) := by decide +kernel
theorem dX8_wide_34 : decode cX8_wide 34 = .ok (.aload_n 0, 1) := by decide +kernel
theorem dX8_wide_35 : decode cX8_wide 35 = .ok (.bipush 6, 2) := by decide +kernel
theorem dX8_wide_37 : decode cX8_wide 37 = .ok (.iconst 2, 1) := by decide +kernel
theorem dX8_wide_38 : decode cX8_wide 38 = .ok (.iconst 0, 1) := by decide +kernel
theorem dX8_wide_39 : decode cX8_wide 39 = .ok (.invokevirtual 135, 3) := by decide +kernel
theorem dX8_wide_42 : decode cX8_wide 42 = .ok (.ireturn, 1) := by decide +kernel
theorem dX8_wide_43 : decode cX8_wide 43 = .ok (.iload_n 2, 1) := by decide +kernel
theorem dX8_wide_44 : decode cX8_wide 44 = .ok (.iload_n 1, 1) := by decide +kernel
theorem dX8_wide_45 : decode cX8_wide 45 = .ok (.isub, 1) := by decide +kernel
theorem dX8_wide_46 : decode cX8_wide 46 = .ok (.iload_n 3, 1) := by decide +kernel
theorem dX8_wide_47 : decode cX8_wide 47 = .ok (.irem, 1) := by decide +kernel
theorem dX8_wide_48 : decode cX8_wide 48 = .ok (.ifCond .eq 12, 3) := by decide +kernel
theorem dX8_wide_51 : decode cX8_wide 51 = .ok (.aload_n 0, 1) := by decide +kernel
theorem dX8_wide_52 : decode cX8_wide 52 = .ok (.bipush 7, 2) := by decide +kernel
theorem dX8_wide_54 : decode cX8_wide 54 = .ok (.iconst 2, 1) := by decide +kernel
theorem dX8_wide_55 : decode cX8_wide 55 = .ok (.iconst 2, 1) := by decide +kernel
theorem dX8_wide_56 : decode cX8_wide 56 = .ok (.invokevirtual 135, 3) := by decide +kernel
theorem dX8_wide_59 : decode cX8_wide 59 = .ok (.ireturn, 1) := by decide +kernel
theorem dX8_wide_60 : decode cX8_wide 60 = .ok (.aload_n 0, 1) := by decide +kernel
theorem dX8_wide_61 : decode cX8_wide 61 = .ok (.iconst 2, 1) := by decide +kernel
theorem dX8_wide_62 : decode cX8_wide 62 = .ok (.invokevirtual 119, 3) := by decide +kernel
theorem dX8_wide_65 : decode cX8_wide 65 = .ok (.aload_n 0, 1) := by decide +kernel
theorem dX8_wide_66 : decode cX8_wide 66 = .ok (.iload_n 1, 1) := by decide +kernel
theorem dX8_wide_67 : decode cX8_wide 67 = .ok (.i2l, 1) := by decide +kernel
theorem dX8_wide_68 : decode cX8_wide 68 = .ok (.invokevirtual 127, 3) := by decide +kernel
theorem dX8_wide_71 : decode cX8_wide 71 = .ok (.aload_n 0, 1) := by decide +kernel
theorem dX8_wide_72 : decode cX8_wide 72 = .ok (.iload_n 2, 1) := by decide +kernel
theorem dX8_wide_73 : decode cX8_wide 73 = .ok (.i2l, 1) := by decide +kernel
theorem dX8_wide_74 : decode cX8_wide 74 = .ok (.invokevirtual 127, 3) := by decide +kernel
theorem dX8_wide_77 : decode cX8_wide 77 = .ok (.aload_n 0, 1) := by decide +kernel
theorem dX8_wide_78 : decode cX8_wide 78 = .ok (.iload_n 3, 1) := by decide +kernel
theorem dX8_wide_79 : decode cX8_wide 79 = .ok (.i2l, 1) := by decide +kernel
theorem dX8_wide_80 : decode cX8_wide 80 = .ok (.invokevirtual 127, 3) := by decide +kernel
theorem dX8_wide_83 : decode cX8_wide 83 = .ok (.aload_n 0, 1) := by decide +kernel
theorem dX8_wide_84 : decode cX8_wide 84 = .ok (.invokevirtual 131, 3) := by decide +kernel
theorem dX8_wide_87 : decode cX8_wide 87 = .ok (.ireturn, 1) := by decide +kernel
theorem dX8_share_0 : decode cX8_share 0 = .ok (.aload_n 0, 1) := by decide +kernel
theorem dX8_share_1 : decode cX8_share 1 = .ok (.invokevirtual 116, 3) := by decide +kernel
theorem dX8_share_4 : decode cX8_share 4 = .ok (.aload_n 0, 1) := by decide +kernel
theorem dX8_share_5 : decode cX8_share 5 = .ok (.getfield 83, 3) := by decide +kernel
theorem dX8_share_8 : decode cX8_share 8 = .ok (.bipush 60, 2) := by decide +kernel
theorem dX8_share_10 : decode cX8_share 10 = .ok (.if_icmp .ne 6, 3) := by decide +kernel
theorem dX8_share_13 : decode cX8_share 13 = .ok (.bipush (-3), 2) := by decide +kernel
theorem dX8_share_15 : decode cX8_share 15 = .ok (.ireturn, 1) := by decide +kernel
theorem dX8_share_16 : decode cX8_share 16 = .ok (.lload_n 3, 1) := by decide +kernel
theorem dX8_share_17 : decode cX8_share 17 = .ok (.lconst 0, 1) := by decide +kernel
theorem dX8_share_18 : decode cX8_share 18 = .ok (.lcmp, 1) := by decide +kernel
theorem dX8_share_19 : decode cX8_share 19 = .ok (.ifCond .ne 12, 3) := by decide +kernel
theorem dX8_share_22 : decode cX8_share 22 = .ok (.aload_n 0, 1) := by decide +kernel
theorem dX8_share_23 : decode cX8_share 23 = .ok (.bipush 6, 2) := by decide +kernel
theorem dX8_share_25 : decode cX8_share 25 = .ok (.iconst 1, 1) := by decide +kernel
theorem dX8_share_26 : decode cX8_share 26 = .ok (.iconst 0, 1) := by decide +kernel
theorem dX8_share_27 : decode cX8_share 27 = .ok (.invokevirtual 135, 3) := by decide +kernel
theorem dX8_share_30 : decode cX8_share 30 = .ok (.ireturn, 1) := by decide +kernel
theorem dX8_share_31 : decode cX8_share 31 = .ok (.aload_n 0, 1) := by decide +kernel
theorem dX8_share_32 : decode cX8_share 32 = .ok (.iconst 3, 1) := by decide +kernel
theorem dX8_share_33 : decode cX8_share 33 = .ok (.invokevirtual 119, 3) := by decide +kernel
theorem dX8_share_36 : decode cX8_share 36 = .ok (.aload_n 0, 1) := by decide +kernel
theorem dX8_share_37 : decode cX8_share 37 = .ok (.lload_n 1, 1) := by decide +kernel
theorem dX8_share_38 : decode cX8_share 38 = .ok (.invokevirtual 127, 3) := by decide +kernel
theorem dX8_share_41 : decode cX8_share 41 = .ok (.aload_n 0, 1) := by decide +kernel
theorem dX8_share_42 : decode cX8_share 42 = .ok (.lload_n 3, 1) := by decide +kernel
theorem dX8_share_43 : decode cX8_share 43 = .ok (.invokevirtual 127, 3) := by decide +kernel
theorem dX8_share_46 : decode cX8_share 46 = .ok (.aload_n 0, 1) := by decide +kernel
theorem dX8_share_47 : decode cX8_share 47 = .ok (.lload_n 1, 1) := by decide +kernel
theorem dX8_share_48 : decode cX8_share 48 = .ok (.lload_n 3, 1) := by decide +kernel
theorem dX8_share_49 : decode cX8_share 49 = .ok (.ldiv, 1) := by decide +kernel
theorem dX8_share_50 : decode cX8_share 50 = .ok (.invokevirtual 127, 3) := by decide +kernel
theorem dX8_share_53 : decode cX8_share 53 = .ok (.aload_n 0, 1) := by decide +kernel
theorem dX8_share_54 : decode cX8_share 54 = .ok (.invokevirtual 131, 3) := by decide +kernel
theorem dX8_share_57 : decode cX8_share 57 = .ok (.ireturn, 1) := by decide +kernel
theorem dX8_pair_0 : decode cX8_pair 0 = .ok (.aload_n 0, 1) := by decide +kernel
theorem dX8_pair_1 : decode cX8_pair 1 = .ok (.invokevirtual 116, 3) := by decide +kernel
theorem dX8_pair_4 : decode cX8_pair 4 = .ok (.iload_n 1, 1) := by decide +kernel
theorem dX8_pair_5 : decode cX8_pair 5 = .ok (.iconst (-1), 1) := by decide +kernel
theorem dX8_pair_6 : decode cX8_pair 6 = .ok (.if_icmp .eq 11, 3) := by decide +kernel
theorem dX8_pair_9 : decode cX8_pair 9 = .ok (.aload_n 0, 1) := by decide +kernel
theorem dX8_pair_10 : decode cX8_pair 10 = .ok (.iload_n 1, 1) := by decide +kernel
theorem dX8_pair_11 : decode cX8_pair 11 = .ok (.invokevirtual 139, 3) := by decide +kernel
theorem dX8_pair_14 : decode cX8_pair 14 = .ok (.ifCond .eq 16, 3) := by decide +kernel
theorem dX8_pair_17 : decode cX8_pair 17 = .ok (.iload_n 2, 1) := by decide +kernel
theorem dX8_pair_18 : decode cX8_pair 18 = .ok (.iconst (-1), 1) := by decide +kernel
theorem dX8_pair_19 : decode cX8_pair 19 = .ok (.if_icmp .eq 14, 3) := by decide +kernel
theorem dX8_pair_22 : decode cX8_pair 22 = .ok (.aload_n 0, 1) := by decide +kernel
theorem dX8_pair_23 : decode cX8_pair 23 = .ok (.iload_n 2, 1) := by decide +kernel
theorem dX8_pair_24 : decode cX8_pair 24 = .ok (.invokevirtual 139, 3) := by decide +kernel
theorem dX8_pair_27 : decode cX8_pair 27 = .ok (.ifCond .ne 6, 3) := by decide +kernel
theorem dX8_pair_30 : decode cX8_pair 30 = .ok (.bipush (-2), 2) := by decide +kernel
theorem dX8_pair_32 : decode cX8_pair 32 = .ok (.ireturn, 1) := by decide +kernel
theorem dX8_pair_33 : decode cX8_pair 33 = .ok (.aload_n 0, 1) := by decide +kernel
theorem dX8_pair_34 : decode cX8_pair 34 = .ok (.getfield 83, 3) := by decide +kernel
theorem dX8_pair_37 : decode cX8_pair 37 = .ok (.bipush 60, 2) := by decide +kernel
theorem dX8_pair_39 : decode cX8_pair 39 = .ok (.if_icmp .ne 6, 3) := by decide +kernel
theorem dX8_pair_42 : decode cX8_pair 42 = .ok (.bipush (-3), 2) := by decide +kernel
theorem dX8_pair_44 : decode cX8_pair 44 = .ok (.ireturn, 1) := by decide +kernel
theorem dX8_pair_45 : decode cX8_pair 45 = .ok (.iload_n 1, 1) := by decide +kernel
theorem dX8_pair_46 : decode cX8_pair 46 = .ok (.iconst (-1), 1) := by decide +kernel
theorem dX8_pair_47 : decode cX8_pair 47 = .ok (.if_icmp .ne 11, 3) := by decide +kernel
theorem dX8_pair_50 : decode cX8_pair 50 = .ok (.aload_n 0, 1) := by decide +kernel
theorem dX8_pair_51 : decode cX8_pair 51 = .ok (.iconst 1, 1) := by decide +kernel
theorem dX8_pair_52 : decode cX8_pair 52 = .ok (.iconst 0, 1) := by decide +kernel
theorem dX8_pair_53 : decode cX8_pair 53 = .ok (.iconst 0, 1) := by decide +kernel
theorem dX8_pair_54 : decode cX8_pair 54 = .ok (.invokevirtual 135, 3) := by decide +kernel
theorem dX8_pair_57 : decode cX8_pair 57 = .ok (.ireturn, 1) := by decide +kernel
theorem dX8_pair_58 : decode cX8_pair 58 = .ok (.aload_n 0, 1) := by decide +kernel
theorem dX8_pair_59 : decode cX8_pair 59 = .ok (.iconst 4, 1) := by decide +kernel
theorem dX8_pair_60 : decode cX8_pair 60 = .ok (.invokevirtual 119, 3) := by decide +kernel
theorem dX8_pair_63 : decode cX8_pair 63 = .ok (.aload_n 0, 1) := by decide +kernel
theorem dX8_pair_64 : decode cX8_pair 64 = .ok (.iload_n 1, 1) := by decide +kernel
theorem dX8_pair_65 : decode cX8_pair 65 = .ok (.i2l, 1) := by decide +kernel
theorem dX8_pair_66 : decode cX8_pair 66 = .ok (.invokevirtual 127, 3) := by decide +kernel
theorem dX8_pair_69 : decode cX8_pair 69 = .ok (.aload_n 0, 1) := by decide +kernel
theorem dX8_pair_70 : decode cX8_pair 70 = .ok (.iload_n 2, 1) := by decide +kernel
theorem dX8_pair_71 : decode cX8_pair 71 = .ok (.i2l, 1) := by decide +kernel
theorem dX8_pair_72 : decode cX8_pair 72 = .ok (.invokevirtual 127, 3) := by decide +kernel
theorem dX8_pair_75 : decode cX8_pair 75 = .ok (.aload_n 0, 1) := by decide +kernel
theorem dX8_pair_76 : decode cX8_pair 76 = .ok (.invokevirtual 131, 3) := by decide +kernel
theorem dX8_pair_79 : decode cX8_pair 79 = .ok (.ireturn, 1) := by decide +kernel
theorem dX8_laid_0 : decode cX8_laid 0 = .ok (.iload_n 1, 1) := by decide +kernel
theorem dX8_laid_1 : decode cX8_laid 1 = .ok (.aload_n 0, 1) := by decide +kernel
theorem dX8_laid_2 : decode cX8_laid 2 = .ok (.getfield 80, 3) := by decide +kernel
theorem dX8_laid_5 : decode cX8_laid 5 = .ok (.if_icmp .ge 12, 3) := by decide +kernel
theorem dX8_laid_8 : decode cX8_laid 8 = .ok (.aload_n 0, 1) := by decide +kernel
theorem dX8_laid_9 : decode cX8_laid 9 = .ok (.getfield 17, 3) := by decide +kernel
theorem dX8_laid_12 : decode cX8_laid 12 = .ok (.iload_n 1, 1) := by decide +kernel
theorem dX8_laid_13 : decode cX8_laid 13 = .ok (.iaload, 1) := by decide +kernel
theorem dX8_laid_14 : decode cX8_laid 14 = .ok (.goto 4, 3) := by decide +kernel
theorem dX8_laid_17 : decode cX8_laid 17 = .ok (.iconst 0, 1) := by decide +kernel
theorem dX8_laid_18 : decode cX8_laid 18 = .ok (.ireturn, 1) := by decide +kernel
theorem dX8_row_0 : decode cX8_row 0 = .ok (.aload_n 0, 1) := by decide +kernel
theorem dX8_row_1 : decode cX8_row 1 = .ok (.invokevirtual 116, 3) := by decide +kernel
theorem dX8_row_4 : decode cX8_row 4 = .ok (.iload_n 1, 1) := by decide +kernel
theorem dX8_row_5 : decode cX8_row 5 = .ok (.bipush 12, 2) := by decide +kernel
theorem dX8_row_7 : decode cX8_row 7 = .ok (.if_icmp .le 6, 3) := by decide +kernel
theorem dX8_row_10 : decode cX8_row 10 = .ok (.bipush (-2), 2) := by decide +kernel
theorem dX8_row_12 : decode cX8_row 12 = .ok (.ireturn, 1) := by decide +kernel
theorem dX8_row_13 : decode cX8_row 13 = .ok (.aload_n 0, 1) := by decide +kernel
theorem dX8_row_14 : decode cX8_row 14 = .ok (.getfield 83, 3) := by decide +kernel
theorem dX8_row_17 : decode cX8_row 17 = .ok (.bipush 60, 2) := by decide +kernel
theorem dX8_row_19 : decode cX8_row 19 = .ok (.if_icmp .ne 6, 3) := by decide +kernel
theorem dX8_row_22 : decode cX8_row 22 = .ok (.bipush (-3), 2) := by decide +kernel
theorem dX8_row_24 : decode cX8_row 24 = .ok (.ireturn, 1) := by decide +kernel
theorem dX8_row_25 : decode cX8_row 25 = .ok (.iload_n 1, 1) := by decide +kernel
theorem dX8_row_26 : decode cX8_row 26 = .ok (.ifCond .ge 11, 3) := by decide +kernel
theorem dX8_row_29 : decode cX8_row 29 = .ok (.aload_n 0, 1) := by decide +kernel
theorem dX8_row_30 : decode cX8_row 30 = .ok (.iconst 5, 1) := by decide +kernel
theorem dX8_row_31 : decode cX8_row 31 = .ok (.iconst 0, 1) := by decide +kernel
theorem dX8_row_32 : decode cX8_row 32 = .ok (.iconst 0, 1) := by decide +kernel
theorem dX8_row_33 : decode cX8_row 33 = .ok (.invokevirtual 135, 3) := by decide +kernel
theorem dX8_row_36 : decode cX8_row 36 = .ok (.ireturn, 1) := by decide +kernel
theorem dX8_row_37 : decode cX8_row 37 = .ok (.iload_n 2, 1) := by decide +kernel
theorem dX8_row_38 : decode cX8_row 38 = .ok (.ifCond .lt 8, 3) := by decide +kernel
theorem dX8_row_41 : decode cX8_row 41 = .ok (.iload_n 2, 1) := by decide +kernel
theorem dX8_row_42 : decode cX8_row 42 = .ok (.iload_n 1, 1) := by decide +kernel
theorem dX8_row_43 : decode cX8_row 43 = .ok (.if_icmp .lt 11, 3) := by decide +kernel
theorem dX8_row_46 : decode cX8_row 46 = .ok (.aload_n 0, 1) := by decide +kernel
theorem dX8_row_47 : decode cX8_row 47 = .ok (.iconst 2, 1) := by decide +kernel
theorem dX8_row_48 : decode cX8_row 48 = .ok (.iconst 1, 1) := by decide +kernel
theorem dX8_row_49 : decode cX8_row 49 = .ok (.iconst 0, 1) := by decide +kernel
theorem dX8_row_50 : decode cX8_row 50 = .ok (.invokevirtual 135, 3) := by decide +kernel
theorem dX8_row_53 : decode cX8_row 53 = .ok (.ireturn, 1) := by decide +kernel
theorem dX8_row_54 : decode cX8_row 54 = .ok (.aload_n 0, 1) := by decide +kernel
theorem dX8_row_55 : decode cX8_row 55 = .ok (.iconst 5, 1) := by decide +kernel
theorem dX8_row_56 : decode cX8_row 56 = .ok (.invokevirtual 119, 3) := by decide +kernel
theorem dX8_row_59 : decode cX8_row 59 = .ok (.aload_n 0, 1) := by decide +kernel
theorem dX8_row_60 : decode cX8_row 60 = .ok (.iload_n 1, 1) := by decide +kernel
theorem dX8_row_61 : decode cX8_row 61 = .ok (.i2l, 1) := by decide +kernel
theorem dX8_row_62 : decode cX8_row 62 = .ok (.invokevirtual 127, 3) := by decide +kernel
theorem dX8_row_65 : decode cX8_row 65 = .ok (.aload_n 0, 1) := by decide +kernel
theorem dX8_row_66 : decode cX8_row 66 = .ok (.iload_n 2, 1) := by decide +kernel
theorem dX8_row_67 : decode cX8_row 67 = .ok (.i2l, 1) := by decide +kernel
theorem dX8_row_68 : decode cX8_row 68 = .ok (.invokevirtual 127, 3) := by decide +kernel
theorem dX8_row_71 : decode cX8_row 71 = .ok (.aload_n 0, 1) := by decide +kernel
theorem dX8_row_72 : decode cX8_row 72 = .ok (.aload_n 0, 1) := by decide +kernel
theorem dX8_row_73 : decode cX8_row 73 = .ok (.iload_n 2, 1) := by decide +kernel
theorem dX8_row_74 : decode cX8_row 74 = .ok (.invokevirtual 142, 3) := by decide +kernel
theorem dX8_row_77 : decode cX8_row 77 = .ok (.i2l, 1) := by decide +kernel
theorem dX8_row_78 : decode cX8_row 78 = .ok (.invokevirtual 127, 3) := by decide +kernel
theorem dX8_row_81 : decode cX8_row 81 = .ok (.iconst 0, 1) := by decide +kernel
theorem dX8_row_82 : decode cX8_row 82 = .ok (.istore_n 3, 1) := by decide +kernel
theorem dX8_row_83 : decode cX8_row 83 = .ok (.iload_n 3, 1) := by decide +kernel
theorem dX8_row_84 : decode cX8_row 84 = .ok (.iload_n 1, 1) := by decide +kernel
theorem dX8_row_85 : decode cX8_row 85 = .ok (.if_icmp .ge 19, 3) := by decide +kernel
theorem dX8_row_88 : decode cX8_row 88 = .ok (.aload_n 0, 1) := by decide +kernel
theorem dX8_row_89 : decode cX8_row 89 = .ok (.aload_n 0, 1) := by decide +kernel
theorem dX8_row_90 : decode cX8_row 90 = .ok (.iload_n 3, 1) := by decide +kernel
theorem dX8_row_91 : decode cX8_row 91 = .ok (.invokevirtual 142, 3) := by decide +kernel
theorem dX8_row_94 : decode cX8_row 94 = .ok (.i2l, 1) := by decide +kernel
theorem dX8_row_95 : decode cX8_row 95 = .ok (.invokevirtual 127, 3) := by decide +kernel
theorem dX8_row_98 : decode cX8_row 98 = .ok (.iinc 3 1, 3) := by decide +kernel
theorem dX8_row_101 : decode cX8_row 101 = .ok (.goto (-18), 3) := by decide +kernel
theorem dX8_row_104 : decode cX8_row 104 = .ok (.aload_n 0, 1) := by decide +kernel
theorem dX8_row_105 : decode cX8_row 105 = .ok (.invokevirtual 131, 3) := by decide +kernel
theorem dX8_row_108 : decode cX8_row 108 = .ok (.ireturn, 1) := by decide +kernel
theorem dX8_shelf_0 : decode cX8_shelf 0 = .ok (.aload_n 0, 1) := by decide +kernel
theorem dX8_shelf_1 : decode cX8_shelf 1 = .ok (.invokevirtual 116, 3) := by decide +kernel
theorem dX8_shelf_4 : decode cX8_shelf 4 = .ok (.iload_n 2, 1) := by decide +kernel
theorem dX8_shelf_5 : decode cX8_shelf 5 = .ok (.bipush 12, 2) := by decide +kernel
theorem dX8_shelf_7 : decode cX8_shelf 7 = .ok (.if_icmp .le 6, 3) := by decide +kernel
theorem dX8_shelf_10 : decode cX8_shelf 10 = .ok (.bipush (-2), 2) := by decide +kernel
theorem dX8_shelf_12 : decode cX8_shelf 12 = .ok (.ireturn, 1) := by decide +kernel
theorem dX8_shelf_13 : decode cX8_shelf 13 = .ok (.aload_n 0, 1) := by decide +kernel
theorem dX8_shelf_14 : decode cX8_shelf 14 = .ok (.getfield 83, 3) := by decide +kernel
theorem dX8_shelf_17 : decode cX8_shelf 17 = .ok (.bipush 60, 2) := by decide +kernel
theorem dX8_shelf_19 : decode cX8_shelf 19 = .ok (.if_icmp .ne 6, 3) := by decide +kernel
theorem dX8_shelf_22 : decode cX8_shelf 22 = .ok (.bipush (-3), 2) := by decide +kernel
theorem dX8_shelf_24 : decode cX8_shelf 24 = .ok (.ireturn, 1) := by decide +kernel
theorem dX8_shelf_25 : decode cX8_shelf 25 = .ok (.iload_n 2, 1) := by decide +kernel
theorem dX8_shelf_26 : decode cX8_shelf 26 = .ok (.ifCond .ge 11, 3) := by decide +kernel
theorem dX8_shelf_29 : decode cX8_shelf 29 = .ok (.aload_n 0, 1) := by decide +kernel
theorem dX8_shelf_30 : decode cX8_shelf 30 = .ok (.iconst 5, 1) := by decide +kernel
theorem dX8_shelf_31 : decode cX8_shelf 31 = .ok (.iconst 0, 1) := by decide +kernel
theorem dX8_shelf_32 : decode cX8_shelf 32 = .ok (.iconst 0, 1) := by decide +kernel
theorem dX8_shelf_33 : decode cX8_shelf 33 = .ok (.invokevirtual 135, 3) := by decide +kernel
theorem dX8_shelf_36 : decode cX8_shelf 36 = .ok (.ireturn, 1) := by decide +kernel
theorem dX8_shelf_37 : decode cX8_shelf 37 = .ok (.aload_n 0, 1) := by decide +kernel
theorem dX8_shelf_38 : decode cX8_shelf 38 = .ok (.bipush 6, 2) := by decide +kernel
theorem dX8_shelf_40 : decode cX8_shelf 40 = .ok (.invokevirtual 119, 3) := by decide +kernel
theorem dX8_shelf_43 : decode cX8_shelf 43 = .ok (.aload_n 0, 1) := by decide +kernel
theorem dX8_shelf_44 : decode cX8_shelf 44 = .ok (.getfield 30, 3) := by decide +kernel
theorem dX8_shelf_47 : decode cX8_shelf 47 = .ok (.aload_n 0, 1) := by decide +kernel
theorem dX8_shelf_48 : decode cX8_shelf 48 = .ok (.getfield 83, 3) := by decide +kernel
theorem dX8_shelf_51 : decode cX8_shelf 51 = .ok (.iload_n 1, 1) := by decide +kernel
theorem dX8_shelf_52 : decode cX8_shelf 52 = .ok (.bastore, 1) := by decide +kernel
theorem dX8_shelf_53 : decode cX8_shelf 53 = .ok (.aload_n 0, 1) := by decide +kernel
theorem dX8_shelf_54 : decode cX8_shelf 54 = .ok (.iload_n 2, 1) := by decide +kernel
theorem dX8_shelf_55 : decode cX8_shelf 55 = .ok (.i2l, 1) := by decide +kernel
theorem dX8_shelf_56 : decode cX8_shelf 56 = .ok (.invokevirtual 127, 3) := by decide +kernel
theorem dX8_shelf_59 : decode cX8_shelf 59 = .ok (.iconst 0, 1) := by decide +kernel
theorem dX8_shelf_60 : decode cX8_shelf 60 = .ok (.istore_n 3, 1) := by decide +kernel
theorem dX8_shelf_61 : decode cX8_shelf 61 = .ok (.iload_n 3, 1) := by decide +kernel
theorem dX8_shelf_62 : decode cX8_shelf 62 = .ok (.iload_n 2, 1) := by decide +kernel
theorem dX8_shelf_63 : decode cX8_shelf 63 = .ok (.if_icmp .ge 16, 3) := by decide +kernel
theorem dX8_shelf_66 : decode cX8_shelf 66 = .ok (.aload_n 0, 1) := by decide +kernel
theorem dX8_shelf_67 : decode cX8_shelf 67 = .ok (.ldc2_w 98, 3) := by decide +kernel
theorem dX8_shelf_70 : decode cX8_shelf 70 = .ok (.invokevirtual 127, 3) := by decide +kernel
theorem dX8_shelf_73 : decode cX8_shelf 73 = .ok (.iinc 3 1, 3) := by decide +kernel
theorem dX8_shelf_76 : decode cX8_shelf 76 = .ok (.goto (-15), 3) := by decide +kernel
theorem dX8_shelf_79 : decode cX8_shelf 79 = .ok (.aload_n 0, 1) := by decide +kernel
theorem dX8_shelf_80 : decode cX8_shelf 80 = .ok (.invokevirtual 131, 3) := by decide +kernel
theorem dX8_shelf_83 : decode cX8_shelf 83 = .ok (.ireturn, 1) := by decide +kernel
theorem dX8_hasPlace_0 : decode cX8_hasPlace 0 = .ok (.iload_n 2, 1) := by decide +kernel
theorem dX8_hasPlace_1 : decode cX8_hasPlace 1 = .ok (.ifCond .lt 19, 3) := by decide +kernel
theorem dX8_hasPlace_4 : decode cX8_hasPlace 4 = .ok (.iload_n 2, 1) := by decide +kernel
theorem dX8_hasPlace_5 : decode cX8_hasPlace 5 = .ok (.aload_n 0, 1) := by decide +kernel
theorem dX8_hasPlace_6 : decode cX8_hasPlace 6 = .ok (.getfield 23, 3) := by decide +kernel
theorem dX8_hasPlace_9 : decode cX8_hasPlace 9 = .ok (.iload_n 1, 1) := by decide +kernel
theorem dX8_hasPlace_10 : decode cX8_hasPlace 10 = .ok (.iaload, 1) := by decide +kernel
theorem dX8_hasPlace_11 : decode cX8_hasPlace 11 = .ok (.iconst 1, 1) := by decide +kernel
theorem dX8_hasPlace_12 : decode cX8_hasPlace 12 = .ok (.isub, 1) := by decide +kernel
theorem dX8_hasPlace_13 : decode cX8_hasPlace 13 = .ok (.if_icmp .ge 7, 3) := by decide +kernel
theorem dX8_hasPlace_16 : decode cX8_hasPlace 16 = .ok (.iconst 1, 1) := by decide +kernel
theorem dX8_hasPlace_17 : decode cX8_hasPlace 17 = .ok (.goto 4, 3) := by decide +kernel
theorem dX8_hasPlace_20 : decode cX8_hasPlace 20 = .ok (.iconst 0, 1) := by decide +kernel
theorem dX8_hasPlace_21 : decode cX8_hasPlace 21 = .ok (.ireturn, 1) := by decide +kernel
theorem dX8_set_0 : decode cX8_set 0 = .ok (.aload_n 0, 1) := by decide +kernel
theorem dX8_set_1 : decode cX8_set 1 = .ok (.invokevirtual 116, 3) := by decide +kernel
theorem dX8_set_4 : decode cX8_set 4 = .ok (.aload_n 0, 1) := by decide +kernel
theorem dX8_set_5 : decode cX8_set 5 = .ok (.iload_n 1, 1) := by decide +kernel
theorem dX8_set_6 : decode cX8_set 6 = .ok (.invokevirtual 139, 3) := by decide +kernel
theorem dX8_set_9 : decode cX8_set 9 = .ok (.ifCond .eq 16, 3) := by decide +kernel
theorem dX8_set_12 : decode cX8_set 12 = .ok (.iload_n 3, 1) := by decide +kernel
theorem dX8_set_13 : decode cX8_set 13 = .ok (.iconst (-1), 1) := by decide +kernel
theorem dX8_set_14 : decode cX8_set 14 = .ok (.if_icmp .eq 14, 3) := by decide +kernel
theorem dX8_set_17 : decode cX8_set 17 = .ok (.aload_n 0, 1) := by decide +kernel
theorem dX8_set_18 : decode cX8_set 18 = .ok (.iload_n 3, 1) := by decide +kernel
theorem dX8_set_19 : decode cX8_set 19 = .ok (.invokevirtual 139, 3) := by decide +kernel
theorem dX8_set_22 : decode cX8_set 22 = .ok (.ifCond .ne 6, 3) := by decide +kernel
theorem dX8_set_25 : decode cX8_set 25 = .ok (.bipush (-2), 2) := by decide +kernel
theorem dX8_set_27 : decode cX8_set 27 = .ok (.ireturn, 1) := by decide +kernel
theorem dX8_set_28 : decode cX8_set 28 = .ok (.aload_n 0, 1) := by decide +kernel
theorem dX8_set_29 : decode cX8_set 29 = .ok (.getfield 20, 3) := by decide +kernel
theorem dX8_set_32 : decode cX8_set 32 = .ok (.iload_n 1, 1) := by decide +kernel
theorem dX8_set_33 : decode cX8_set 33 = .ok (.iaload, 1) := by decide +kernel
theorem dX8_set_34 : decode cX8_set 34 = .ok (.bipush 6, 2) := by decide +kernel
theorem dX8_set_36 : decode cX8_set 36 = .ok (.if_icmp .ne 28, 3) := by decide +kernel
theorem dX8_set_39 : decode cX8_set 39 = .ok (.iload_n 3, 1) := by decide +kernel
theorem dX8_set_40 : decode cX8_set 40 = .ok (.iconst (-1), 1) := by decide +kernel
theorem dX8_set_41 : decode cX8_set 41 = .ok (.if_icmp .eq 31, 3) := by decide +kernel
theorem dX8_set_44 : decode cX8_set 44 = .ok (.aload_n 0, 1) := by decide +kernel
theorem dX8_set_45 : decode cX8_set 45 = .ok (.getfield 20, 3) := by decide +kernel
theorem dX8_set_48 : decode cX8_set 48 = .ok (.iload_n 3, 1) := by decide +kernel
theorem dX8_set_49 : decode cX8_set 49 = .ok (.iaload, 1) := by decide +kernel
theorem dX8_set_50 : decode cX8_set 50 = .ok (.iconst 1, 1) := by decide +kernel
theorem dX8_set_51 : decode cX8_set 51 = .ok (.if_icmp .eq 21, 3) := by decide +kernel
theorem dX8_set_54 : decode cX8_set 54 = .ok (.aload_n 0, 1) := by decide +kernel
theorem dX8_set_55 : decode cX8_set 55 = .ok (.getfield 20, 3) := by decide +kernel
theorem dX8_set_58 : decode cX8_set 58 = .ok (.iload_n 3, 1) := by decide +kernel
theorem dX8_set_59 : decode cX8_set 59 = .ok (.iaload, 1) := by decide +kernel
theorem dX8_set_60 : decode cX8_set 60 = .ok (.iconst 2, 1) := by decide +kernel
theorem dX8_set_61 : decode cX8_set 61 = .ok (.if_icmp .eq 11, 3) := by decide +kernel
theorem dX8_set_64 : decode cX8_set 64 = .ok (.aload_n 0, 1) := by decide +kernel
theorem dX8_set_65 : decode cX8_set 65 = .ok (.iconst 3, 1) := by decide +kernel
theorem dX8_set_66 : decode cX8_set 66 = .ok (.iconst (-1), 1) := by decide +kernel
theorem dX8_set_67 : decode cX8_set 67 = .ok (.iconst 0, 1) := by decide +kernel
theorem dX8_set_68 : decode cX8_set 68 = .ok (.invokevirtual 135, 3) := by decide +kernel
theorem dX8_set_71 : decode cX8_set 71 = .ok (.ireturn, 1) := by decide +kernel
theorem dX8_set_72 : decode cX8_set 72 = .ok (.aload_n 0, 1) := by decide +kernel
theorem dX8_set_73 : decode cX8_set 73 = .ok (.iload_n 1, 1) := by decide +kernel
theorem dX8_set_74 : decode cX8_set 74 = .ok (.iload_n 2, 1) := by decide +kernel
theorem dX8_set_75 : decode cX8_set 75 = .ok (.invokevirtual 145, 3) := by decide +kernel
theorem dX8_set_78 : decode cX8_set 78 = .ok (.ifCond .ne 11, 3) := by decide +kernel
theorem dX8_set_81 : decode cX8_set 81 = .ok (.aload_n 0, 1) := by decide +kernel
theorem dX8_set_82 : decode cX8_set 82 = .ok (.iconst 2, 1) := by decide +kernel
theorem dX8_set_83 : decode cX8_set 83 = .ok (.iconst (-1), 1) := by decide +kernel
theorem dX8_set_84 : decode cX8_set 84 = .ok (.iconst 0, 1) := by decide +kernel
theorem dX8_set_85 : decode cX8_set 85 = .ok (.invokevirtual 135, 3) := by decide +kernel
theorem dX8_set_88 : decode cX8_set 88 = .ok (.ireturn, 1) := by decide +kernel
theorem dX8_set_89 : decode cX8_set 89 = .ok (.aload_n 0, 1) := by decide +kernel
theorem dX8_set_90 : decode cX8_set 90 = .ok (.getfield 30, 3) := by decide +kernel
theorem dX8_set_93 : decode cX8_set 93 = .ok (.iload_n 1, 1) := by decide +kernel
theorem dX8_set_94 : decode cX8_set 94 = .ok (.baload, 1) := by decide +kernel
theorem dX8_set_95 : decode cX8_set 95 = .ok (.ifCond .eq 26, 3) := by decide +kernel
theorem dX8_set_98 : decode cX8_set 98 = .ok (.iload_n 3, 1) := by decide +kernel
theorem dX8_set_99 : decode cX8_set 99 = .ok (.iconst (-1), 1) := by decide +kernel
theorem dX8_set_100 : decode cX8_set 100 = .ok (.if_icmp .eq 21, 3) := by decide +kernel
theorem dX8_set_103 : decode cX8_set 103 = .ok (.aload_n 0, 1) := by decide +kernel
theorem dX8_set_104 : decode cX8_set 104 = .ok (.getfield 20, 3) := by decide +kernel
theorem dX8_set_107 : decode cX8_set 107 = .ok (.iload_n 3, 1) := by decide +kernel
theorem dX8_set_108 : decode cX8_set 108 = .ok (.iaload, 1) := by decide +kernel
theorem dX8_set_109 : decode cX8_set 109 = .ok (.iconst 2, 1) := by decide +kernel
theorem dX8_set_110 : decode cX8_set 110 = .ok (.if_icmp .eq 11, 3) := by decide +kernel
theorem dX8_set_113 : decode cX8_set 113 = .ok (.aload_n 0, 1) := by decide +kernel
theorem dX8_set_114 : decode cX8_set 114 = .ok (.iconst 4, 1) := by decide +kernel
theorem dX8_set_115 : decode cX8_set 115 = .ok (.iconst (-1), 1) := by decide +kernel
theorem dX8_set_116 : decode cX8_set 116 = .ok (.iconst 0, 1) := by decide +kernel
theorem dX8_set_117 : decode cX8_set 117 = .ok (.invokevirtual 135, 3) := by decide +kernel
theorem dX8_set_120 : decode cX8_set 120 = .ok (.ireturn, 1) := by decide +kernel
theorem dX8_set_121 : decode cX8_set 121 = .ok (.aload_n 0, 1) := by decide +kernel
theorem dX8_set_122 : decode cX8_set 122 = .ok (.getfield 26, 3) := by decide +kernel
theorem dX8_set_125 : decode cX8_set 125 = .ok (.bipush 16, 2) := by decide +kernel
theorem dX8_set_127 : decode cX8_set 127 = .ok (.iload_n 1, 1) := by decide +kernel
theorem dX8_set_128 : decode cX8_set 128 = .ok (.imul, 1) := by decide +kernel
theorem dX8_set_129 : decode cX8_set 129 = .ok (.iconst 1, 1) := by decide +kernel
theorem dX8_set_130 : decode cX8_set 130 = .ok (.iadd, 1) := by decide +kernel
theorem dX8_set_131 : decode cX8_set 131 = .ok (.iload_n 2, 1) := by decide +kernel
theorem dX8_set_132 : decode cX8_set 132 = .ok (.iadd, 1) := by decide +kernel
theorem dX8_set_133 : decode cX8_set 133 = .ok (.iload_n 3, 1) := by decide +kernel
theorem dX8_set_134 : decode cX8_set 134 = .ok (.i2l, 1) := by decide +kernel
theorem dX8_set_135 : decode cX8_set 135 = .ok (.lastore, 1) := by decide +kernel
theorem dX8_set_136 : decode cX8_set 136 = .ok (.iconst 1, 1) := by decide +kernel
theorem dX8_set_137 : decode cX8_set 137 = .ok (.ireturn, 1) := by decide +kernel
theorem dX8_at__0 : decode cX8_at_ 0 = .ok (.aload_n 0, 1) := by decide +kernel
theorem dX8_at__1 : decode cX8_at_ 1 = .ok (.invokevirtual 116, 3) := by decide +kernel
theorem dX8_at__4 : decode cX8_at_ 4 = .ok (.aload_n 0, 1) := by decide +kernel
theorem dX8_at__5 : decode cX8_at_ 5 = .ok (.iload_n 1, 1) := by decide +kernel
theorem dX8_at__6 : decode cX8_at_ 6 = .ok (.invokevirtual 139, 3) := by decide +kernel
theorem dX8_at__9 : decode cX8_at_ 9 = .ok (.ifCond .ne 6, 3) := by decide +kernel
theorem dX8_at__12 : decode cX8_at_ 12 = .ok (.bipush (-2), 2) := by decide +kernel
theorem dX8_at__14 : decode cX8_at_ 14 = .ok (.ireturn, 1) := by decide +kernel
theorem dX8_at__15 : decode cX8_at_ 15 = .ok (.aload_n 0, 1) := by decide +kernel
theorem dX8_at__16 : decode cX8_at_ 16 = .ok (.getfield 20, 3) := by decide +kernel
theorem dX8_at__19 : decode cX8_at_ 19 = .ok (.iload_n 1, 1) := by decide +kernel
theorem dX8_at__20 : decode cX8_at_ 20 = .ok (.iaload, 1) := by decide +kernel
theorem dX8_at__21 : decode cX8_at_ 21 = .ok (.bipush 6, 2) := by decide +kernel
theorem dX8_at__23 : decode cX8_at_ 23 = .ok (.if_icmp .eq 11, 3) := by decide +kernel
theorem dX8_at__26 : decode cX8_at_ 26 = .ok (.aload_n 0, 1) := by decide +kernel
theorem dX8_at__27 : decode cX8_at_ 27 = .ok (.iconst 3, 1) := by decide +kernel
theorem dX8_at__28 : decode cX8_at_ 28 = .ok (.iconst (-1), 1) := by decide +kernel
theorem dX8_at__29 : decode cX8_at_ 29 = .ok (.iconst 0, 1) := by decide +kernel
theorem dX8_at__30 : decode cX8_at_ 30 = .ok (.invokevirtual 135, 3) := by decide +kernel
theorem dX8_at__33 : decode cX8_at_ 33 = .ok (.ireturn, 1) := by decide +kernel
theorem dX8_at__34 : decode cX8_at_ 34 = .ok (.aload_n 0, 1) := by decide +kernel
theorem dX8_at__35 : decode cX8_at_ 35 = .ok (.iload_n 1, 1) := by decide +kernel
theorem dX8_at__36 : decode cX8_at_ 36 = .ok (.iload_n 2, 1) := by decide +kernel
theorem dX8_at__37 : decode cX8_at_ 37 = .ok (.invokevirtual 145, 3) := by decide +kernel
theorem dX8_at__40 : decode cX8_at_ 40 = .ok (.ifCond .ne 11, 3) := by decide +kernel
theorem dX8_at__43 : decode cX8_at_ 43 = .ok (.aload_n 0, 1) := by decide +kernel
theorem dX8_at__44 : decode cX8_at_ 44 = .ok (.iconst 2, 1) := by decide +kernel
theorem dX8_at__45 : decode cX8_at_ 45 = .ok (.iconst (-1), 1) := by decide +kernel
theorem dX8_at__46 : decode cX8_at_ 46 = .ok (.iconst 0, 1) := by decide +kernel
theorem dX8_at__47 : decode cX8_at_ 47 = .ok (.invokevirtual 135, 3) := by decide +kernel
theorem dX8_at__50 : decode cX8_at_ 50 = .ok (.ireturn, 1) := by decide +kernel
theorem dX8_at__51 : decode cX8_at_ 51 = .ok (.aload_n 0, 1) := by decide +kernel
theorem dX8_at__52 : decode cX8_at_ 52 = .ok (.iload_n 1, 1) := by decide +kernel
theorem dX8_at__53 : decode cX8_at_ 53 = .ok (.iconst 1, 1) := by decide +kernel
theorem dX8_at__54 : decode cX8_at_ 54 = .ok (.iload_n 2, 1) := by decide +kernel
theorem dX8_at__55 : decode cX8_at_ 55 = .ok (.iadd, 1) := by decide +kernel
theorem dX8_at__56 : decode cX8_at_ 56 = .ok (.invokevirtual 90, 3) := by decide +kernel
theorem dX8_at__59 : decode cX8_at_ 59 = .ok (.l2i, 1) := by decide +kernel
theorem dX8_at__60 : decode cX8_at_ 60 = .ok (.ireturn, 1) := by decide +kernel
theorem dX8_kind_0 : decode cX8_kind 0 = .ok (.aload_n 0, 1) := by decide +kernel
theorem dX8_kind_1 : decode cX8_kind 1 = .ok (.iload_n 1, 1) := by decide +kernel
theorem dX8_kind_2 : decode cX8_kind 2 = .ok (.invokevirtual 139, 3) := by decide +kernel
theorem dX8_kind_5 : decode cX8_kind 5 = .ok (.ifCond .eq 12, 3) := by decide +kernel
theorem dX8_kind_8 : decode cX8_kind 8 = .ok (.aload_n 0, 1) := by decide +kernel
theorem dX8_kind_9 : decode cX8_kind 9 = .ok (.getfield 20, 3) := by decide +kernel
theorem dX8_kind_12 : decode cX8_kind 12 = .ok (.iload_n 1, 1) := by decide +kernel
theorem dX8_kind_13 : decode cX8_kind 13 = .ok (.iaload, 1) := by decide +kernel
theorem dX8_kind_14 : decode cX8_kind 14 = .ok (.goto 5, 3) := by decide +kernel
theorem dX8_kind_17 : decode cX8_kind 17 = .ok (.bipush (-2), 2) := by decide +kernel
theorem dX8_kind_19 : decode cX8_kind 19 = .ok (.ireturn, 1) := by decide +kernel
theorem dX8_parts_0 : decode cX8_parts 0 = .ok (.aload_n 0, 1) := by decide +kernel
theorem dX8_parts_1 : decode cX8_parts 1 = .ok (.iload_n 1, 1) := by decide +kernel
theorem dX8_parts_2 : decode cX8_parts 2 = .ok (.invokevirtual 139, 3) := by decide +kernel
theorem dX8_parts_5 : decode cX8_parts 5 = .ok (.ifCond .eq 12, 3) := by decide +kernel
theorem dX8_parts_8 : decode cX8_parts 8 = .ok (.aload_n 0, 1) := by decide +kernel
theorem dX8_parts_9 : decode cX8_parts 9 = .ok (.getfield 23, 3) := by decide +kernel
theorem dX8_parts_12 : decode cX8_parts 12 = .ok (.iload_n 1, 1) := by decide +kernel
theorem dX8_parts_13 : decode cX8_parts 13 = .ok (.iaload, 1) := by decide +kernel
theorem dX8_parts_14 : decode cX8_parts 14 = .ok (.goto 5, 3) := by decide +kernel
theorem dX8_parts_17 : decode cX8_parts 17 = .ok (.bipush (-2), 2) := by decide +kernel
theorem dX8_parts_19 : decode cX8_parts 19 = .ok (.ireturn, 1) := by decide +kernel
theorem dX8_part__0 : decode cX8_part_ 0 = .ok (.aload_n 0, 1) := by decide +kernel
theorem dX8_part__1 : decode cX8_part_ 1 = .ok (.iload_n 1, 1) := by decide +kernel
theorem dX8_part__2 : decode cX8_part_ 2 = .ok (.invokevirtual 139, 3) := by decide +kernel
theorem dX8_part__5 : decode cX8_part_ 5 = .ok (.ifCond .eq 15, 3) := by decide +kernel
theorem dX8_part__8 : decode cX8_part_ 8 = .ok (.aload_n 0, 1) := by decide +kernel
theorem dX8_part__9 : decode cX8_part_ 9 = .ok (.iload_n 1, 1) := by decide +kernel
theorem dX8_part__10 : decode cX8_part_ 10 = .ok (.iload_n 2, 1) := by decide +kernel
theorem dX8_part__11 : decode cX8_part_ 11 = .ok (.ldc2_w 149, 3) := by decide +kernel
theorem dX8_part__14 : decode cX8_part_ 14 = .ok (.invokevirtual 151, 3) := by decide +kernel
theorem dX8_part__17 : decode cX8_part_ 17 = .ok (.goto 6, 3) := by decide +kernel
theorem dX8_part__20 : decode cX8_part_ 20 = .ok (.ldc2_w 149, 3) := by decide +kernel
theorem dX8_part__23 : decode cX8_part_ 23 = .ok (.lreturn, 1) := by decide +kernel
theorem dX8_heavyOf_0 : decode cX8_heavyOf 0 = .ok (.ldc2_w 155, 3) := by decide +kernel
theorem dX8_heavyOf_3 : decode cX8_heavyOf 3 = .ok (.aload_n 0, 1) := by decide +kernel
theorem dX8_heavyOf_4 : decode cX8_heavyOf 4 = .ok (.getfield 40, 3) := by decide +kernel
theorem dX8_heavyOf_7 : decode cX8_heavyOf 7 = .ok (.iload_n 1, 1) := by decide +kernel
theorem dX8_heavyOf_8 : decode cX8_heavyOf 8 = .ok (.laload, 1) := by decide +kernel
theorem dX8_heavyOf_9 : decode cX8_heavyOf 9 = .ok (.lmul, 1) := by decide +kernel
theorem dX8_heavyOf_10 : decode cX8_heavyOf 10 = .ok (.lconst 1, 1) := by decide +kernel
theorem dX8_heavyOf_11 : decode cX8_heavyOf 11 = .ok (.ladd, 1) := by decide +kernel
theorem dX8_heavyOf_12 : decode cX8_heavyOf 12 = .ok (.lstore_n 2, 1) := by decide +kernel
theorem dX8_heavyOf_13 : decode cX8_heavyOf 13 = .ok (.aload_n 0, 1) := by decide +kernel
theorem dX8_heavyOf_14 : decode cX8_heavyOf 14 = .ok (.getfield 20, 3) := by decide +kernel
theorem dX8_heavyOf_17 : decode cX8_heavyOf 17 = .ok (.iload_n 1, 1) := by decide +kernel
theorem dX8_heavyOf_18 : decode cX8_heavyOf 18 = .ok (.iaload, 1) := by decide +kernel
theorem dX8_heavyOf_19 : decode cX8_heavyOf 19 = .ok (.iconst 4, 1) := by decide +kernel
theorem dX8_heavyOf_20 : decode cX8_heavyOf 20 = .ok (.if_icmp .ne 12, 3) := by decide +kernel
theorem dX8_heavyOf_23 : decode cX8_heavyOf 23 = .ok (.aload_n 0, 1) := by decide +kernel
theorem dX8_heavyOf_24 : decode cX8_heavyOf 24 = .ok (.getfield 40, 3) := by decide +kernel
theorem dX8_heavyOf_27 : decode cX8_heavyOf 27 = .ok (.iload_n 1, 1) := by decide +kernel
theorem dX8_heavyOf_28 : decode cX8_heavyOf 28 = .ok (.laload, 1) := by decide +kernel
theorem dX8_heavyOf_29 : decode cX8_heavyOf 29 = .ok (.goto 32, 3) := by decide +kernel
theorem dX8_heavyOf_32 : decode cX8_heavyOf 32 = .ok (.aload_n 0, 1) := by decide +kernel
theorem dX8_heavyOf_33 : decode cX8_heavyOf 33 = .ok (.getfield 20, 3) := by decide +kernel
theorem dX8_heavyOf_36 : decode cX8_heavyOf 36 = .ok (.iload_n 1, 1) := by decide +kernel
theorem dX8_heavyOf_37 : decode cX8_heavyOf 37 = .ok (.iaload, 1) := by decide +kernel
theorem dX8_heavyOf_38 : decode cX8_heavyOf 38 = .ok (.iconst 1, 1) := by decide +kernel
theorem dX8_heavyOf_39 : decode cX8_heavyOf 39 = .ok (.if_icmp .eq 13, 3) := by decide +kernel
theorem dX8_heavyOf_42 : decode cX8_heavyOf 42 = .ok (.aload_n 0, 1) := by decide +kernel
theorem dX8_heavyOf_43 : decode cX8_heavyOf 43 = .ok (.getfield 20, 3) := by decide +kernel
theorem dX8_heavyOf_46 : decode cX8_heavyOf 46 = .ok (.iload_n 1, 1) := by decide +kernel
theorem dX8_heavyOf_47 : decode cX8_heavyOf 47 = .ok (.iaload, 1) := by decide +kernel
theorem dX8_heavyOf_48 : decode cX8_heavyOf 48 = .ok (.iconst 2, 1) := by decide +kernel
theorem dX8_heavyOf_49 : decode cX8_heavyOf 49 = .ok (.if_icmp .ne 11, 3) := by decide +kernel
theorem dX8_heavyOf_52 : decode cX8_heavyOf 52 = .ok (.ldc2_w 157, 3) := by decide +kernel
theorem dX8_heavyOf_55 : decode cX8_heavyOf 55 = .ok (.lload_n 2, 1) := by decide +kernel
theorem dX8_heavyOf_56 : decode cX8_heavyOf 56 = .ok (.lmul, 1) := by decide +kernel
theorem dX8_heavyOf_57 : decode cX8_heavyOf 57 = .ok (.goto 4, 3) := by decide +kernel
theorem dX8_heavyOf_60 : decode cX8_heavyOf 60 = .ok (.lload_n 2, 1) := by decide +kernel
theorem dX8_heavyOf_61 : decode cX8_heavyOf 61 = .ok (.lreturn, 1) := by decide +kernel
theorem dX8_weightOf_0 : decode cX8_weightOf 0 = .ok (.aload_n 0, 1) := by decide +kernel
theorem dX8_weightOf_1 : decode cX8_weightOf 1 = .ok (.getfield 20, 3) := by decide +kernel
theorem dX8_weightOf_4 : decode cX8_weightOf 4 = .ok (.iload_n 1, 1) := by decide +kernel
theorem dX8_weightOf_5 : decode cX8_weightOf 5 = .ok (.iaload, 1) := by decide +kernel
theorem dX8_weightOf_6 : decode cX8_weightOf 6 = .ok (.tableswitch 147 0 5 #[38, 40, 56, 94, 101, 140], 38) := by decide +kernel
theorem dX8_weightOf_44 : decode cX8_weightOf 44 = .ok (.lconst 1, 1) := by decide +kernel
theorem dX8_weightOf_45 : decode cX8_weightOf 45 = .ok (.lreturn, 1) := by decide +kernel
theorem dX8_weightOf_46 : decode cX8_weightOf 46 = .ok (.aload_n 0, 1) := by decide +kernel
theorem dX8_weightOf_47 : decode cX8_weightOf 47 = .ok (.iload_n 1, 1) := by decide +kernel
theorem dX8_weightOf_48 : decode cX8_weightOf 48 = .ok (.iconst 1, 1) := by decide +kernel
theorem dX8_weightOf_49 : decode cX8_weightOf 49 = .ok (.invokevirtual 90, 3) := by decide +kernel
theorem dX8_weightOf_52 : decode cX8_weightOf 52 = .ok (.aload_n 0, 1) := by decide +kernel
theorem dX8_weightOf_53 : decode cX8_weightOf 53 = .ok (.iload_n 1, 1) := by decide +kernel
theorem dX8_weightOf_54 : decode cX8_weightOf 54 = .ok (.iconst 0, 1) := by decide +kernel
theorem dX8_weightOf_55 : decode cX8_weightOf 55 = .ok (.invokevirtual 90, 3) := by decide +kernel
theorem dX8_weightOf_58 : decode cX8_weightOf 58 = .ok (.lsub, 1) := by decide +kernel
theorem dX8_weightOf_59 : decode cX8_weightOf 59 = .ok (.lconst 1, 1) := by decide +kernel
theorem dX8_weightOf_60 : decode cX8_weightOf 60 = .ok (.ladd, 1) := by decide +kernel
theorem dX8_weightOf_61 : decode cX8_weightOf 61 = .ok (.lreturn, 1) := by decide +kernel
theorem dX8_weightOf_62 : decode cX8_weightOf 62 = .ok (.aload_n 0, 1) := by decide +kernel
theorem dX8_weightOf_63 : decode cX8_weightOf 63 = .ok (.iload_n 1, 1) := by decide +kernel
theorem dX8_weightOf_64 : decode cX8_weightOf 64 = .ok (.iconst 2, 1) := by decide +kernel
theorem dX8_weightOf_65 : decode cX8_weightOf 65 = .ok (.invokevirtual 90, 3) := by decide +kernel
theorem dX8_weightOf_68 : decode cX8_weightOf 68 = .ok (.lstore_n 2, 1) := by decide +kernel
theorem dX8_weightOf_69 : decode cX8_weightOf 69 = .ok (.aload_n 0, 1) := by decide +kernel
theorem dX8_weightOf_70 : decode cX8_weightOf 70 = .ok (.iload_n 1, 1) := by decide +kernel
theorem dX8_weightOf_71 : decode cX8_weightOf 71 = .ok (.iconst 1, 1) := by decide +kernel
theorem dX8_weightOf_72 : decode cX8_weightOf 72 = .ok (.invokevirtual 90, 3) := by decide +kernel
theorem dX8_weightOf_75 : decode cX8_weightOf 75 = .ok (.aload_n 0, 1) := by decide +kernel
theorem dX8_weightOf_76 : decode cX8_weightOf 76 = .ok (.iload_n 1, 1) := by decide +kernel
theorem dX8_weightOf_77 : decode cX8_weightOf 77 = .ok (.iconst 0, 1) := by decide +kernel
theorem dX8_weightOf_78 : decode cX8_weightOf 78 = .ok (.invokevirtual 90, 3) := by decide +kernel
theorem dX8_weightOf_81 : decode cX8_weightOf 81 = .ok (.lsub, 1) := by decide +kernel
theorem dX8_weightOf_82 : decode cX8_weightOf 82 = .ok (.lconst 1, 1) := by decide +kernel
theorem dX8_weightOf_83 : decode cX8_weightOf 83 = .ok (.ladd, 1) := by decide +kernel
theorem dX8_weightOf_84 : decode cX8_weightOf 84 = .ok (.lload_n 2, 1) := by decide +kernel
theorem dX8_weightOf_85 : decode cX8_weightOf 85 = .ok (.lconst 0, 1) := by decide +kernel
theorem dX8_weightOf_86 : decode cX8_weightOf 86 = .ok (.lcmp, 1) := by decide +kernel
theorem dX8_weightOf_87 : decode cX8_weightOf 87 = .ok (.ifCond .ge 8, 3) := by decide +kernel
theorem dX8_weightOf_90 : decode cX8_weightOf 90 = .ok (.lload_n 2, 1) := by decide +kernel
theorem dX8_weightOf_91 : decode cX8_weightOf 91 = .ok (.lneg, 1) := by decide +kernel
theorem dX8_weightOf_92 : decode cX8_weightOf 92 = .ok (.goto 4, 3) := by decide +kernel
theorem dX8_weightOf_95 : decode cX8_weightOf 95 = .ok (.lload_n 2, 1) := by decide +kernel
theorem dX8_weightOf_96 : decode cX8_weightOf 96 = .ok (.ldiv, 1) := by decide +kernel
theorem dX8_weightOf_97 : decode cX8_weightOf 97 = .ok (.lconst 1, 1) := by decide +kernel
theorem dX8_weightOf_98 : decode cX8_weightOf 98 = .ok (.ladd, 1) := by decide +kernel
theorem dX8_weightOf_99 : decode cX8_weightOf 99 = .ok (.lreturn, 1) := by decide +kernel
theorem dX8_weightOf_100 : decode cX8_weightOf 100 = .ok (.aload_n 0, 1) := by decide +kernel
theorem dX8_weightOf_101 : decode cX8_weightOf 101 = .ok (.iload_n 1, 1) := by decide +kernel
theorem dX8_weightOf_102 : decode cX8_weightOf 102 = .ok (.iconst 2, 1) := by decide +kernel
theorem dX8_weightOf_103 : decode cX8_weightOf 103 = .ok (.invokevirtual 90, 3) := by decide +kernel
theorem dX8_weightOf_106 : decode cX8_weightOf 106 = .ok (.lreturn, 1) := by decide +kernel
theorem dX8_weightOf_107 : decode cX8_weightOf 107 = .ok (.aload_n 0, 1) := by decide +kernel
theorem dX8_weightOf_108 : decode cX8_weightOf 108 = .ok (.iload_n 1, 1) := by decide +kernel
theorem dX8_weightOf_109 : decode cX8_weightOf 109 = .ok (.iconst 1, 1) := by decide +kernel
theorem dX8_weightOf_110 : decode cX8_weightOf 110 = .ok (.invokevirtual 90, 3) := by decide +kernel
theorem dX8_weightOf_113 : decode cX8_weightOf 113 = .ok (.l2i, 1) := by decide +kernel
theorem dX8_weightOf_114 : decode cX8_weightOf 114 = .ok (.istore 4, 2) := by decide +kernel
theorem dX8_weightOf_116 : decode cX8_weightOf 116 = .ok (.aload_n 0, 1) := by decide +kernel
theorem dX8_weightOf_117 : decode cX8_weightOf 117 = .ok (.aload_n 0, 1) := by decide +kernel
theorem dX8_weightOf_118 : decode cX8_weightOf 118 = .ok (.iload_n 1, 1) := by decide +kernel
theorem dX8_weightOf_119 : decode cX8_weightOf 119 = .ok (.iconst 0, 1) := by decide +kernel
theorem dX8_weightOf_120 : decode cX8_weightOf 120 = .ok (.invokevirtual 90, 3) := by decide +kernel
theorem dX8_weightOf_123 : decode cX8_weightOf 123 = .ok (.l2i, 1) := by decide +kernel
theorem dX8_weightOf_124 : decode cX8_weightOf 124 = .ok (.invokevirtual 159, 3) := by decide +kernel
theorem dX8_weightOf_127 : decode cX8_weightOf 127 = .ok (.iload 4, 2) := by decide +kernel
theorem dX8_weightOf_129 : decode cX8_weightOf 129 = .ok (.iconst (-1), 1) := by decide +kernel
theorem dX8_weightOf_130 : decode cX8_weightOf 130 = .ok (.if_icmp .ne 7, 3) := by decide +kernel
theorem dX8_weightOf_133 : decode cX8_weightOf 133 = .ok (.lconst 0, 1) := by decide +kernel
theorem dX8_weightOf_134 : decode cX8_weightOf 134 = .ok (.goto 10, 3) := by decide +kernel
theorem dX8_weightOf_137 : decode cX8_weightOf 137 = .ok (.aload_n 0, 1) := by decide +kernel
theorem dX8_weightOf_138 : decode cX8_weightOf 138 = .ok (.getfield 40, 3) := by decide +kernel
theorem dX8_weightOf_141 : decode cX8_weightOf 141 = .ok (.iload 4, 2) := by decide +kernel
theorem dX8_weightOf_143 : decode cX8_weightOf 143 = .ok (.laload, 1) := by decide +kernel
theorem dX8_weightOf_144 : decode cX8_weightOf 144 = .ok (.ladd, 1) := by decide +kernel
theorem dX8_weightOf_145 : decode cX8_weightOf 145 = .ok (.lreturn, 1) := by decide +kernel
theorem dX8_weightOf_146 : decode cX8_weightOf 146 = .ok (.aload_n 0, 1) := by decide +kernel
theorem dX8_weightOf_147 : decode cX8_weightOf 147 = .ok (.iload_n 1, 1) := by decide +kernel
theorem dX8_weightOf_148 : decode cX8_weightOf 148 = .ok (.iconst 2, 1) := by decide +kernel
theorem dX8_weightOf_149 : decode cX8_weightOf 149 = .ok (.invokevirtual 90, 3) := by decide +kernel
theorem dX8_weightOf_152 : decode cX8_weightOf 152 = .ok (.lreturn, 1) := by decide +kernel
theorem dX8_weightOf_153 : decode cX8_weightOf 153 = .ok (.lconst 0, 1) := by decide +kernel
theorem dX8_weightOf_154 : decode cX8_weightOf 154 = .ok (.lstore 5, 2) := by decide +kernel
theorem dX8_weightOf_156 : decode cX8_weightOf 156 = .ok (.iconst 1, 1) := by decide +kernel
theorem dX8_weightOf_157 : decode cX8_weightOf 157 = .ok (.istore 7, 2) := by decide +kernel
theorem dX8_weightOf_159 : decode cX8_weightOf 159 = .ok (.iload 7, 2) := by decide +kernel
theorem dX8_weightOf_161 : decode cX8_weightOf 161 = .ok (.aload_n 0, 1) := by decide +kernel
theorem dX8_weightOf_162 : decode cX8_weightOf 162 = .ok (.getfield 23, 3) := by decide +kernel
theorem dX8_weightOf_165 : decode cX8_weightOf 165 = .ok (.iload_n 1, 1) := by decide +kernel
theorem dX8_weightOf_166 : decode cX8_weightOf 166 = .ok (.iaload, 1) := by decide +kernel
theorem dX8_weightOf_167 : decode cX8_weightOf 167 = .ok (.if_icmp .ge 33, 3) := by decide +kernel
theorem dX8_weightOf_170 : decode cX8_weightOf 170 = .ok (.lload 5, 2) := by decide +kernel
theorem dX8_weightOf_172 : decode cX8_weightOf 172 = .ok (.aload_n 0, 1) := by decide +kernel
theorem dX8_weightOf_173 : decode cX8_weightOf 173 = .ok (.iload_n 1, 1) := by decide +kernel
theorem dX8_weightOf_174 : decode cX8_weightOf 174 = .ok (.iload 7, 2) := by decide +kernel
theorem dX8_weightOf_176 : decode cX8_weightOf 176 = .ok (.invokevirtual 90, 3) := by decide +kernel
theorem dX8_weightOf_179 : decode cX8_weightOf 179 = .ok (.ldc2_w 98, 3) := by decide +kernel
theorem dX8_weightOf_182 : decode cX8_weightOf 182 = .ok (.lcmp, 1) := by decide +kernel
theorem dX8_weightOf_183 : decode cX8_weightOf 183 = .ok (.ifCond .ne 7, 3) := by decide +kernel
theorem dX8_weightOf_186 : decode cX8_weightOf 186 = .ok (.lconst 0, 1) := by decide +kernel
theorem dX8_weightOf_187 : decode cX8_weightOf 187 = .ok (.goto 4, 3) := by decide +kernel
theorem dX8_weightOf_190 : decode cX8_weightOf 190 = .ok (.lconst 1, 1) := by decide +kernel
theorem dX8_weightOf_191 : decode cX8_weightOf 191 = .ok (.ladd, 1) := by decide +kernel
theorem dX8_weightOf_192 : decode cX8_weightOf 192 = .ok (.lstore 5, 2) := by decide +kernel
theorem dX8_weightOf_194 : decode cX8_weightOf 194 = .ok (.iinc 7 1, 3) := by decide +kernel
theorem dX8_weightOf_197 : decode cX8_weightOf 197 = .ok (.goto (-38), 3) := by decide +kernel
theorem dX8_weightOf_200 : decode cX8_weightOf 200 = .ok (.lload 5, 2) := by decide +kernel
theorem dX8_weightOf_202 : decode cX8_weightOf 202 = .ok (.lreturn, 1) := by decide +kernel
theorem dX8_weight_0 : decode cX8_weight 0 = .ok (.aload_n 0, 1) := by decide +kernel
theorem dX8_weight_1 : decode cX8_weight 1 = .ok (.iload_n 1, 1) := by decide +kernel
theorem dX8_weight_2 : decode cX8_weight 2 = .ok (.invokevirtual 139, 3) := by decide +kernel
theorem dX8_weight_5 : decode cX8_weight 5 = .ok (.ifCond .ne 7, 3) := by decide +kernel
theorem dX8_weight_8 : decode cX8_weight 8 = .ok (.ldc2_w 149, 3) := by decide +kernel
theorem dX8_weight_11 : decode cX8_weight 11 = .ok (.lreturn, 1) := by decide +kernel
theorem dX8_weight_12 : decode cX8_weight 12 = .ok (.iconst 0, 1) := by decide +kernel
theorem dX8_weight_13 : decode cX8_weight 13 = .ok (.istore_n 3, 1) := by decide +kernel
theorem dX8_weight_14 : decode cX8_weight 14 = .ok (.iload_n 3, 1) := by decide +kernel
theorem dX8_weight_15 : decode cX8_weight 15 = .ok (.iload_n 1, 1) := by decide +kernel
theorem dX8_weight_16 : decode cX8_weight 16 = .ok (.if_icmp .gt 20, 3) := by decide +kernel
theorem dX8_weight_19 : decode cX8_weight 19 = .ok (.aload_n 0, 1) := by decide +kernel
theorem dX8_weight_20 : decode cX8_weight 20 = .ok (.getfield 40, 3) := by decide +kernel
theorem dX8_weight_23 : decode cX8_weight 23 = .ok (.iload_n 3, 1) := by decide +kernel
theorem dX8_weight_24 : decode cX8_weight 24 = .ok (.aload_n 0, 1) := by decide +kernel
theorem dX8_weight_25 : decode cX8_weight 25 = .ok (.iload_n 3, 1) := by decide +kernel
theorem dX8_weight_26 : decode cX8_weight 26 = .ok (.invokevirtual 163, 3) := by decide +kernel
theorem dX8_weight_29 : decode cX8_weight 29 = .ok (.lastore, 1) := by decide +kernel
theorem dX8_weight_30 : decode cX8_weight 30 = .ok (.iinc 3 1, 3) := by decide +kernel
theorem dX8_weight_33 : decode cX8_weight 33 = .ok (.goto (-19), 3) := by decide +kernel
theorem dX8_weight_36 : decode cX8_weight 36 = .ok (.iload_n 2, 1) := by decide +kernel
theorem dX8_weight_37 : decode cX8_weight 37 = .ok (.ifCond .eq 11, 3) := by decide +kernel
theorem dX8_weight_40 : decode cX8_weight 40 = .ok (.aload_n 0, 1) := by decide +kernel
theorem dX8_weight_41 : decode cX8_weight 41 = .ok (.iload_n 1, 1) := by decide +kernel
theorem dX8_weight_42 : decode cX8_weight 42 = .ok (.invokevirtual 159, 3) := by decide +kernel
theorem dX8_weight_45 : decode cX8_weight 45 = .ok (.goto 9, 3) := by decide +kernel
theorem dX8_weight_48 : decode cX8_weight 48 = .ok (.aload_n 0, 1) := by decide +kernel
theorem dX8_weight_49 : decode cX8_weight 49 = .ok (.getfield 40, 3) := by decide +kernel
theorem dX8_weight_52 : decode cX8_weight 52 = .ok (.iload_n 1, 1) := by decide +kernel
theorem dX8_weight_53 : decode cX8_weight 53 = .ok (.laload, 1) := by decide +kernel
theorem dX8_weight_54 : decode cX8_weight 54 = .ok (.lreturn, 1) := by decide +kernel
theorem dX8_equal_0 : decode cX8_equal 0 = .ok (.aload_n 0, 1) := by decide +kernel
theorem dX8_equal_1 : decode cX8_equal 1 = .ok (.iload_n 1, 1) := by decide +kernel
theorem dX8_equal_2 : decode cX8_equal 2 = .ok (.invokevirtual 139, 3) := by decide +kernel
theorem dX8_equal_5 : decode cX8_equal 5 = .ok (.ifCond .eq 11, 3) := by decide +kernel
theorem dX8_equal_8 : decode cX8_equal 8 = .ok (.aload_n 0, 1) := by decide +kernel
theorem dX8_equal_9 : decode cX8_equal 9 = .ok (.iload_n 2, 1) := by decide +kernel
theorem dX8_equal_10 : decode cX8_equal 10 = .ok (.invokevirtual 139, 3) := by decide +kernel
theorem dX8_equal_13 : decode cX8_equal 13 = .ok (.ifCond .ne 8, 3) := by decide +kernel
theorem dX8_equal_16 : decode cX8_equal 16 = .ok (.bipush (-2), 2) := by decide +kernel
theorem dX8_equal_18 : decode cX8_equal 18 = .ok (.goto 23, 3) := by decide +kernel
theorem dX8_equal_21 : decode cX8_equal 21 = .ok (.aload_n 0, 1) := by decide +kernel
theorem dX8_equal_22 : decode cX8_equal 22 = .ok (.getfield 34, 3) := by decide +kernel
theorem dX8_equal_25 : decode cX8_equal 25 = .ok (.iload_n 1, 1) := by decide +kernel
theorem dX8_equal_26 : decode cX8_equal 26 = .ok (.iaload, 1) := by decide +kernel
theorem dX8_equal_27 : decode cX8_equal 27 = .ok (.aload_n 0, 1) := by decide +kernel
theorem dX8_equal_28 : decode cX8_equal 28 = .ok (.getfield 34, 3) := by decide +kernel
theorem dX8_equal_31 : decode cX8_equal 31 = .ok (.iload_n 2, 1) := by decide +kernel
theorem dX8_equal_32 : decode cX8_equal 32 = .ok (.iaload, 1) := by decide +kernel
theorem dX8_equal_33 : decode cX8_equal 33 = .ok (.if_icmp .ne 7, 3) := by decide +kernel
theorem dX8_equal_36 : decode cX8_equal 36 = .ok (.iconst 1, 1) := by decide +kernel
theorem dX8_equal_37 : decode cX8_equal 37 = .ok (.goto 4, 3) := by decide +kernel
theorem dX8_equal_40 : decode cX8_equal 40 = .ok (.iconst 0, 1) := by decide +kernel
theorem dX8_equal_41 : decode cX8_equal 41 = .ok (.ireturn, 1) := by decide +kernel
theorem dX8_hash_0 : decode cX8_hash 0 = .ok (.aload_n 0, 1) := by decide +kernel
theorem dX8_hash_1 : decode cX8_hash 1 = .ok (.iload_n 1, 1) := by decide +kernel
theorem dX8_hash_2 : decode cX8_hash 2 = .ok (.invokevirtual 139, 3) := by decide +kernel
theorem dX8_hash_5 : decode cX8_hash 5 = .ok (.ifCond .eq 12, 3) := by decide +kernel
theorem dX8_hash_8 : decode cX8_hash 8 = .ok (.aload_n 0, 1) := by decide +kernel
theorem dX8_hash_9 : decode cX8_hash 9 = .ok (.getfield 37, 3) := by decide +kernel
theorem dX8_hash_12 : decode cX8_hash 12 = .ok (.iload_n 1, 1) := by decide +kernel
theorem dX8_hash_13 : decode cX8_hash 13 = .ok (.iaload, 1) := by decide +kernel
theorem dX8_hash_14 : decode cX8_hash 14 = .ok (.goto 4, 3) := by decide +kernel
theorem dX8_hash_17 : decode cX8_hash 17 = .ok (.iconst 0, 1) := by decide +kernel
theorem dX8_hash_18 : decode cX8_hash 18 = .ok (.ireturn, 1) := by decide +kernel
theorem dX8_first_0 : decode cX8_first 0 = .ok (.aload_n 0, 1) := by decide +kernel
theorem dX8_first_1 : decode cX8_first 1 = .ok (.iload_n 1, 1) := by decide +kernel
theorem dX8_first_2 : decode cX8_first 2 = .ok (.invokevirtual 139, 3) := by decide +kernel
theorem dX8_first_5 : decode cX8_first 5 = .ok (.ifCond .eq 12, 3) := by decide +kernel
theorem dX8_first_8 : decode cX8_first 8 = .ok (.aload_n 0, 1) := by decide +kernel
theorem dX8_first_9 : decode cX8_first 9 = .ok (.getfield 34, 3) := by decide +kernel
theorem dX8_first_12 : decode cX8_first 12 = .ok (.iload_n 1, 1) := by decide +kernel
theorem dX8_first_13 : decode cX8_first 13 = .ok (.iaload, 1) := by decide +kernel
theorem dX8_first_14 : decode cX8_first 14 = .ok (.goto 5, 3) := by decide +kernel
theorem dX8_first_17 : decode cX8_first 17 = .ok (.bipush (-2), 2) := by decide +kernel
theorem dX8_first_19 : decode cX8_first 19 = .ok (.ireturn, 1) := by decide +kernel
theorem dX8_by_0 : decode cX8_by 0 = .ok (.lload_n 0, 1) := by decide +kernel
theorem dX8_by_1 : decode cX8_by 1 = .ok (.lload_n 2, 1) := by decide +kernel
theorem dX8_by_2 : decode cX8_by 2 = .ok (.lcmp, 1) := by decide +kernel
theorem dX8_by_3 : decode cX8_by 3 = .ok (.ifCond .ge 7, 3) := by decide +kernel
theorem dX8_by_6 : decode cX8_by 6 = .ok (.iconst (-1), 1) := by decide +kernel
theorem dX8_by_7 : decode cX8_by 7 = .ok (.goto 14, 3) := by decide +kernel
theorem dX8_by_10 : decode cX8_by 10 = .ok (.lload_n 0, 1) := by decide +kernel
theorem dX8_by_11 : decode cX8_by 11 = .ok (.lload_n 2, 1) := by decide +kernel
theorem dX8_by_12 : decode cX8_by 12 = .ok (.lcmp, 1) := by decide +kernel
theorem dX8_by_13 : decode cX8_by 13 = .ok (.ifCond .le 7, 3) := by decide +kernel
theorem dX8_by_16 : decode cX8_by 16 = .ok (.iconst 1, 1) := by decide +kernel
theorem dX8_by_17 : decode cX8_by 17 = .ok (.goto 4, 3) := by decide +kernel
theorem dX8_by_20 : decode cX8_by 20 = .ok (.iconst 0, 1) := by decide +kernel
theorem dX8_by_21 : decode cX8_by 21 = .ok (.ireturn, 1) := by decide +kernel
theorem dX8_line_0 : decode cX8_line 0 = .ok (.lload_n 0, 1) := by decide +kernel
theorem dX8_line_1 : decode cX8_line 1 = .ok (.lconst 0, 1) := by decide +kernel
theorem dX8_line_2 : decode cX8_line 2 = .ok (.lcmp, 1) := by decide +kernel
theorem dX8_line_3 : decode cX8_line 3 = .ok (.ifCond .ge 11, 3) := by decide +kernel
theorem dX8_line_6 : decode cX8_line 6 = .ok (.lload_n 0, 1) := by decide +kernel
theorem dX8_line_7 : decode cX8_line 7 = .ok (.ldc2_w 110, 3) := by decide +kernel
theorem dX8_line_10 : decode cX8_line 10 = .ok (.lxor, 1) := by decide +kernel
theorem dX8_line_11 : decode cX8_line 11 = .ok (.goto 4, 3) := by decide +kernel
theorem dX8_line_14 : decode cX8_line 14 = .ok (.lload_n 0, 1) := by decide +kernel
theorem dX8_line_15 : decode cX8_line 15 = .ok (.lreturn, 1) := by decide +kernel
theorem dX8_byRows_0 : decode cX8_byRows 0 = .ok (.aload_n 0, 1) := by decide +kernel
theorem dX8_byRows_1 : decode cX8_byRows 1 = .ok (.iload_n 1, 1) := by decide +kernel
theorem dX8_byRows_2 : decode cX8_byRows 2 = .ok (.iconst 0, 1) := by decide +kernel
theorem dX8_byRows_3 : decode cX8_byRows 3 = .ok (.invokevirtual 90, 3) := by decide +kernel
theorem dX8_byRows_6 : decode cX8_byRows 6 = .ok (.l2i, 1) := by decide +kernel
theorem dX8_byRows_7 : decode cX8_byRows 7 = .ok (.istore_n 3, 1) := by decide +kernel
theorem dX8_byRows_8 : decode cX8_byRows 8 = .ok (.aload_n 0, 1) := by decide +kernel
theorem dX8_byRows_9 : decode cX8_byRows 9 = .ok (.iload_n 2, 1) := by decide +kernel
theorem dX8_byRows_10 : decode cX8_byRows 10 = .ok (.iconst 0, 1) := by decide +kernel
theorem dX8_byRows_11 : decode cX8_byRows 11 = .ok (.invokevirtual 90, 3) := by decide +kernel
theorem dX8_byRows_14 : decode cX8_byRows 14 = .ok (.l2i, 1) := by decide +kernel
theorem dX8_byRows_15 : decode cX8_byRows 15 = .ok (.istore 4, 2) := by decide +kernel
theorem dX8_byRows_17 : decode cX8_byRows 17 = .ok (.iconst 0, 1) := by decide +kernel
theorem dX8_byRows_18 : decode cX8_byRows 18 = .ok (.istore 5, 2) := by decide +kernel
theorem dX8_byRows_20 : decode cX8_byRows 20 = .ok (.iload 5, 2) := by decide +kernel
theorem dX8_byRows_22 : decode cX8_byRows 22 = .ok (.iload_n 3, 1) := by decide +kernel
theorem dX8_byRows_23 : decode cX8_byRows 23 = .ok (.if_icmp .ge 60, 3) := by decide +kernel
theorem dX8_byRows_26 : decode cX8_byRows 26 = .ok (.iload 5, 2) := by decide +kernel
theorem dX8_byRows_28 : decode cX8_byRows 28 = .ok (.iload 4, 2) := by decide +kernel
theorem dX8_byRows_30 : decode cX8_byRows 30 = .ok (.if_icmp .ge 53, 3) := by decide +kernel
theorem dX8_byRows_33 : decode cX8_byRows 33 = .ok (.aload_n 0, 1) := by decide +kernel
theorem dX8_byRows_34 : decode cX8_byRows 34 = .ok (.iload_n 1, 1) := by decide +kernel
theorem dX8_byRows_35 : decode cX8_byRows 35 = .ok (.iconst 3, 1) := by decide +kernel
theorem dX8_byRows_36 : decode cX8_byRows 36 = .ok (.iload 5, 2) := by decide +kernel
theorem dX8_byRows_38 : decode cX8_byRows 38 = .ok (.iadd, 1) := by decide +kernel
theorem dX8_byRows_39 : decode cX8_byRows 39 = .ok (.invokevirtual 90, 3) := by decide +kernel
theorem dX8_byRows_42 : decode cX8_byRows 42 = .ok (.aload_n 0, 1) := by decide +kernel
theorem dX8_byRows_43 : decode cX8_byRows 43 = .ok (.iload_n 2, 1) := by decide +kernel
theorem dX8_byRows_44 : decode cX8_byRows 44 = .ok (.iconst 3, 1) := by decide +kernel
theorem dX8_byRows_45 : decode cX8_byRows 45 = .ok (.iload 5, 2) := by decide +kernel
theorem dX8_byRows_47 : decode cX8_byRows 47 = .ok (.iadd, 1) := by decide +kernel
theorem dX8_byRows_48 : decode cX8_byRows 48 = .ok (.invokevirtual 90, 3) := by decide +kernel
theorem dX8_byRows_51 : decode cX8_byRows 51 = .ok (.lcmp, 1) := by decide +kernel
theorem dX8_byRows_52 : decode cX8_byRows 52 = .ok (.ifCond .eq 25, 3) := by decide +kernel
theorem dX8_byRows_55 : decode cX8_byRows 55 = .ok (.aload_n 0, 1) := by decide +kernel
theorem dX8_byRows_56 : decode cX8_byRows 56 = .ok (.iload_n 1, 1) := by decide +kernel
theorem dX8_byRows_57 : decode cX8_byRows 57 = .ok (.iconst 3, 1) := by decide +kernel
theorem dX8_byRows_58 : decode cX8_byRows 58 = .ok (.iload 5, 2) := by decide +kernel
theorem dX8_byRows_60 : decode cX8_byRows 60 = .ok (.iadd, 1) := by decide +kernel
theorem dX8_byRows_61 : decode cX8_byRows 61 = .ok (.invokevirtual 90, 3) := by decide +kernel
theorem dX8_byRows_64 : decode cX8_byRows 64 = .ok (.aload_n 0, 1) := by decide +kernel
theorem dX8_byRows_65 : decode cX8_byRows 65 = .ok (.iload_n 2, 1) := by decide +kernel
theorem dX8_byRows_66 : decode cX8_byRows 66 = .ok (.iconst 3, 1) := by decide +kernel
theorem dX8_byRows_67 : decode cX8_byRows 67 = .ok (.iload 5, 2) := by decide +kernel
theorem dX8_byRows_69 : decode cX8_byRows 69 = .ok (.iadd, 1) := by decide +kernel
theorem dX8_byRows_70 : decode cX8_byRows 70 = .ok (.invokevirtual 90, 3) := by decide +kernel
theorem dX8_byRows_73 : decode cX8_byRows 73 = .ok (.invokestatic 166, 3) := by decide +kernel
theorem dX8_byRows_76 : decode cX8_byRows 76 = .ok (.ireturn, 1) := by decide +kernel
theorem dX8_byRows_77 : decode cX8_byRows 77 = .ok (.iinc 5 1, 3) := by decide +kernel
theorem dX8_byRows_80 : decode cX8_byRows 80 = .ok (.goto (-60), 3) := by decide +kernel
theorem dX8_byRows_83 : decode cX8_byRows 83 = .ok (.iload_n 3, 1) := by decide +kernel
theorem dX8_byRows_84 : decode cX8_byRows 84 = .ok (.iload 4, 2) := by decide +kernel
theorem dX8_byRows_86 : decode cX8_byRows 86 = .ok (.if_icmp .eq 14, 3) := by decide +kernel
theorem dX8_byRows_89 : decode cX8_byRows 89 = .ok (.iload_n 3, 1) := by decide +kernel
theorem dX8_byRows_90 : decode cX8_byRows 90 = .ok (.i2l, 1) := by decide +kernel
theorem dX8_byRows_91 : decode cX8_byRows 91 = .ok (.iload 4, 2) := by decide +kernel
theorem dX8_byRows_93 : decode cX8_byRows 93 = .ok (.i2l, 1) := by decide +kernel
theorem dX8_byRows_94 : decode cX8_byRows 94 = .ok (.invokestatic 166, 3) := by decide +kernel
theorem dX8_byRows_97 : decode cX8_byRows 97 = .ok (.goto 18, 3) := by decide +kernel
theorem dX8_byRows_100 : decode cX8_byRows 100 = .ok (.aload_n 0, 1) := by decide +kernel
theorem dX8_byRows_101 : decode cX8_byRows 101 = .ok (.iload_n 1, 1) := by decide +kernel
theorem dX8_byRows_102 : decode cX8_byRows 102 = .ok (.iconst 1, 1) := by decide +kernel
theorem dX8_byRows_103 : decode cX8_byRows 103 = .ok (.invokevirtual 90, 3) := by decide +kernel
theorem dX8_byRows_106 : decode cX8_byRows 106 = .ok (.aload_n 0, 1) := by decide +kernel
theorem dX8_byRows_107 : decode cX8_byRows 107 = .ok (.iload_n 2, 1) := by decide +kernel
theorem dX8_byRows_108 : decode cX8_byRows 108 = .ok (.iconst 1, 1) := by decide +kernel
theorem dX8_byRows_109 : decode cX8_byRows 109 = .ok (.invokevirtual 90, 3) := by decide +kernel
theorem dX8_byRows_112 : decode cX8_byRows 112 = .ok (.invokestatic 166, 3) := by decide +kernel
theorem dX8_byRows_115 : decode cX8_byRows 115 = .ok (.ireturn, 1) := by decide +kernel
theorem dX8_compared_0 : decode cX8_compared 0 = .ok (.iload_n 1, 1) := by decide +kernel
theorem dX8_compared_1 : decode cX8_compared 1 = .ok (.istore_n 3, 1) := by decide +kernel
theorem dX8_compared_2 : decode cX8_compared 2 = .ok (.iload_n 2, 1) := by decide +kernel
theorem dX8_compared_3 : decode cX8_compared 3 = .ok (.istore 4, 2) := by decide +kernel
theorem dX8_compared_5 : decode cX8_compared 5 = .ok (.iload_n 3, 1) := by decide +kernel
theorem dX8_compared_6 : decode cX8_compared 6 = .ok (.iconst (-1), 1) := by decide +kernel
theorem dX8_compared_7 : decode cX8_compared 7 = .ok (.if_icmp .eq 88, 3) := by decide +kernel
theorem dX8_compared_10 : decode cX8_compared 10 = .ok (.iload 4, 2) := by decide +kernel
theorem dX8_compared_12 : decode cX8_compared 12 = .ok (.iconst (-1), 1) := by decide +kernel
theorem dX8_compared_13 : decode cX8_compared 13 = .ok (.if_icmp .eq 82, 3) := by decide +kernel
theorem dX8_compared_16 : decode cX8_compared 16 = .ok (.aload_n 0, 1) := by decide +kernel
theorem dX8_compared_17 : decode cX8_compared 17 = .ok (.getfield 20, 3) := by decide +kernel
theorem dX8_compared_20 : decode cX8_compared 20 = .ok (.iload_n 3, 1) := by decide +kernel
theorem dX8_compared_21 : decode cX8_compared 21 = .ok (.iaload, 1) := by decide +kernel
theorem dX8_compared_22 : decode cX8_compared 22 = .ok (.iconst 4, 1) := by decide +kernel
theorem dX8_compared_23 : decode cX8_compared 23 = .ok (.if_icmp .ne 72, 3) := by decide +kernel
theorem dX8_compared_26 : decode cX8_compared 26 = .ok (.aload_n 0, 1) := by decide +kernel
theorem dX8_compared_27 : decode cX8_compared 27 = .ok (.getfield 20, 3) := by decide +kernel
theorem dX8_compared_30 : decode cX8_compared 30 = .ok (.iload 4, 2) := by decide +kernel
theorem dX8_compared_32 : decode cX8_compared 32 = .ok (.iaload, 1) := by decide +kernel
theorem dX8_compared_33 : decode cX8_compared 33 = .ok (.iconst 4, 1) := by decide +kernel
theorem dX8_compared_34 : decode cX8_compared 34 = .ok (.if_icmp .ne 61, 3) := by decide +kernel
theorem dX8_compared_37 : decode cX8_compared 37 = .ok (.aload_n 0, 1) := by decide +kernel
theorem dX8_compared_38 : decode cX8_compared 38 = .ok (.aload_n 0, 1) := by decide +kernel
theorem dX8_compared_39 : decode cX8_compared 39 = .ok (.iload_n 3, 1) := by decide +kernel
theorem dX8_compared_40 : decode cX8_compared 40 = .ok (.iconst 0, 1) := by decide +kernel
theorem dX8_compared_41 : decode cX8_compared 41 = .ok (.invokevirtual 90, 3) := by decide +kernel
theorem dX8_compared_44 : decode cX8_compared 44 = .ok (.invokevirtual 94, 3) := by decide +kernel
theorem dX8_compared_47 : decode cX8_compared 47 = .ok (.aload_n 0, 1) := by decide +kernel
theorem dX8_compared_48 : decode cX8_compared 48 = .ok (.aload_n 0, 1) := by decide +kernel
theorem dX8_compared_49 : decode cX8_compared 49 = .ok (.iload 4, 2) := by decide +kernel
theorem dX8_compared_51 : decode cX8_compared 51 = .ok (.iconst 0, 1) := by decide +kernel
theorem dX8_compared_52 : decode cX8_compared 52 = .ok (.invokevirtual 90, 3) := by decide +kernel
theorem dX8_compared_55 : decode cX8_compared 55 = .ok (.invokevirtual 94, 3) := by decide +kernel
theorem dX8_compared_58 : decode cX8_compared 58 = .ok (.if_icmp .ne 7, 3) := by decide +kernel
theorem dX8_compared_61 : decode cX8_compared 61 = .ok (.iconst 1, 1) := by decide +kernel
theorem dX8_compared_62 : decode cX8_compared 62 = .ok (.goto 4, 3) := by decide +kernel
theorem dX8_compared_65 : decode cX8_compared 65 = .ok (.iconst 0, 1) := by decide +kernel
theorem dX8_compared_66 : decode cX8_compared 66 = .ok (.istore 5, 2) := by decide +kernel
theorem dX8_compared_68 : decode cX8_compared 68 = .ok (.aload_n 0, 1) := by decide +kernel
theorem dX8_compared_69 : decode cX8_compared 69 = .ok (.iload_n 3, 1) := by decide +kernel
theorem dX8_compared_70 : decode cX8_compared 70 = .ok (.iload 5, 2) := by decide +kernel
theorem dX8_compared_72 : decode cX8_compared 72 = .ok (.invokevirtual 90, 3) := by decide +kernel
theorem dX8_compared_75 : decode cX8_compared 75 = .ok (.l2i, 1) := by decide +kernel
theorem dX8_compared_76 : decode cX8_compared 76 = .ok (.istore 6, 2) := by decide +kernel
theorem dX8_compared_78 : decode cX8_compared 78 = .ok (.aload_n 0, 1) := by decide +kernel
theorem dX8_compared_79 : decode cX8_compared 79 = .ok (.iload 4, 2) := by decide +kernel
theorem dX8_compared_81 : decode cX8_compared 81 = .ok (.iload 5, 2) := by decide +kernel
theorem dX8_compared_83 : decode cX8_compared 83 = .ok (.invokevirtual 90, 3) := by decide +kernel
theorem dX8_compared_86 : decode cX8_compared 86 = .ok (.l2i, 1) := by decide +kernel
theorem dX8_compared_87 : decode cX8_compared 87 = .ok (.istore 4, 2) := by decide +kernel
theorem dX8_compared_89 : decode cX8_compared 89 = .ok (.iload 6, 2) := by decide +kernel
theorem dX8_compared_91 : decode cX8_compared 91 = .ok (.istore_n 3, 1) := by decide +kernel
theorem dX8_compared_92 : decode cX8_compared 92 = .ok (.goto (-87), 3) := by decide +kernel
theorem dX8_compared_95 : decode cX8_compared 95 = .ok (.iload_n 3, 1) := by decide +kernel
theorem dX8_compared_96 : decode cX8_compared 96 = .ok (.iconst (-1), 1) := by decide +kernel
theorem dX8_compared_97 : decode cX8_compared 97 = .ok (.if_icmp .eq 9, 3) := by decide +kernel
theorem dX8_compared_100 : decode cX8_compared 100 = .ok (.iload 4, 2) := by decide +kernel
theorem dX8_compared_102 : decode cX8_compared 102 = .ok (.iconst (-1), 1) := by decide +kernel
theorem dX8_compared_103 : decode cX8_compared 103 = .ok (.if_icmp .ne 12, 3) := by decide +kernel
theorem dX8_compared_106 : decode cX8_compared 106 = .ok (.iload_n 3, 1) := by decide +kernel
theorem dX8_compared_107 : decode cX8_compared 107 = .ok (.i2l, 1) := by decide +kernel
theorem dX8_compared_108 : decode cX8_compared 108 = .ok (.iload 4, 2) := by decide +kernel
theorem dX8_compared_110 : decode cX8_compared 110 = .ok (.i2l, 1) := by decide +kernel
theorem dX8_compared_111 : decode cX8_compared 111 = .ok (.invokestatic 166, 3) := by decide +kernel
theorem dX8_compared_114 : decode cX8_compared 114 = .ok (.ireturn, 1) := by decide +kernel
theorem dX8_compared_115 : decode cX8_compared 115 = .ok (.aload_n 0, 1) := by decide +kernel
theorem dX8_compared_116 : decode cX8_compared 116 = .ok (.getfield 20, 3) := by decide +kernel
theorem dX8_compared_119 : decode cX8_compared 119 = .ok (.iload_n 3, 1) := by decide +kernel
theorem dX8_compared_120 : decode cX8_compared 120 = .ok (.iaload, 1) := by decide +kernel
theorem dX8_compared_121 : decode cX8_compared 121 = .ok (.aload_n 0, 1) := by decide +kernel
theorem dX8_compared_122 : decode cX8_compared 122 = .ok (.getfield 20, 3) := by decide +kernel
theorem dX8_compared_125 : decode cX8_compared 125 = .ok (.iload 4, 2) := by decide +kernel
theorem dX8_compared_127 : decode cX8_compared 127 = .ok (.iaload, 1) := by decide +kernel
theorem dX8_compared_128 : decode cX8_compared 128 = .ok (.if_icmp .eq 22, 3) := by decide +kernel
theorem dX8_compared_131 : decode cX8_compared 131 = .ok (.aload_n 0, 1) := by decide +kernel
theorem dX8_compared_132 : decode cX8_compared 132 = .ok (.getfield 20, 3) := by decide +kernel
theorem dX8_compared_135 : decode cX8_compared 135 = .ok (.iload_n 3, 1) := by decide +kernel
theorem dX8_compared_136 : decode cX8_compared 136 = .ok (.iaload, 1) := by decide +kernel
theorem dX8_compared_137 : decode cX8_compared 137 = .ok (.i2l, 1) := by decide +kernel
theorem dX8_compared_138 : decode cX8_compared 138 = .ok (.aload_n 0, 1) := by decide +kernel
theorem dX8_compared_139 : decode cX8_compared 139 = .ok (.getfield 20, 3) := by decide +kernel
theorem dX8_compared_142 : decode cX8_compared 142 = .ok (.iload 4, 2) := by decide +kernel
theorem dX8_compared_144 : decode cX8_compared 144 = .ok (.iaload, 1) := by decide +kernel
theorem dX8_compared_145 : decode cX8_compared 145 = .ok (.i2l, 1) := by decide +kernel
theorem dX8_compared_146 : decode cX8_compared 146 = .ok (.invokestatic 166, 3) := by decide +kernel
theorem dX8_compared_149 : decode cX8_compared 149 = .ok (.ireturn, 1) := by decide +kernel
theorem dX8_compared_150 : decode cX8_compared 150 = .ok (.aload_n 0, 1) := by decide +kernel
theorem dX8_compared_151 : decode cX8_compared 151 = .ok (.getfield 20, 3) := by decide +kernel
theorem dX8_compared_154 : decode cX8_compared 154 = .ok (.iload_n 3, 1) := by decide +kernel
theorem dX8_compared_155 : decode cX8_compared 155 = .ok (.iaload, 1) := by decide +kernel
theorem dX8_compared_156 : decode cX8_compared 156 = .ok (.bipush 6, 2) := by decide +kernel
theorem dX8_compared_158 : decode cX8_compared 158 = .ok (.if_icmp .ne 12, 3) := by decide +kernel
theorem dX8_compared_161 : decode cX8_compared 161 = .ok (.iload_n 3, 1) := by decide +kernel
theorem dX8_compared_162 : decode cX8_compared 162 = .ok (.i2l, 1) := by decide +kernel
theorem dX8_compared_163 : decode cX8_compared 163 = .ok (.iload 4, 2) := by decide +kernel
theorem dX8_compared_165 : decode cX8_compared 165 = .ok (.i2l, 1) := by decide +kernel
theorem dX8_compared_166 : decode cX8_compared 166 = .ok (.invokestatic 166, 3) := by decide +kernel
theorem dX8_compared_169 : decode cX8_compared 169 = .ok (.ireturn, 1) := by decide +kernel
theorem dX8_compared_170 : decode cX8_compared 170 = .ok (.aload_n 0, 1) := by decide +kernel
theorem dX8_compared_171 : decode cX8_compared 171 = .ok (.getfield 20, 3) := by decide +kernel
theorem dX8_compared_174 : decode cX8_compared 174 = .ok (.iload_n 3, 1) := by decide +kernel
theorem dX8_compared_175 : decode cX8_compared 175 = .ok (.iaload, 1) := by decide +kernel
theorem dX8_compared_176 : decode cX8_compared 176 = .ok (.iconst 5, 1) := by decide +kernel
theorem dX8_compared_177 : decode cX8_compared 177 = .ok (.if_icmp .ne 11, 3) := by decide +kernel
theorem dX8_compared_180 : decode cX8_compared 180 = .ok (.aload_n 0, 1) := by decide +kernel
theorem dX8_compared_181 : decode cX8_compared 181 = .ok (.iload_n 3, 1) := by decide +kernel
theorem dX8_compared_182 : decode cX8_compared 182 = .ok (.iload 4, 2) := by decide +kernel
theorem dX8_compared_184 : decode cX8_compared 184 = .ok (.invokevirtual 170, 3) := by decide +kernel
theorem dX8_compared_187 : decode cX8_compared 187 = .ok (.ireturn, 1) := by decide +kernel
theorem dX8_compared_188 : decode cX8_compared 188 = .ok (.iconst 0, 1) := by decide +kernel
theorem dX8_compared_189 : decode cX8_compared 189 = .ok (.istore 5, 2) := by decide +kernel
theorem dX8_compared_191 : decode cX8_compared 191 = .ok (.iload 5, 2) := by decide +kernel
theorem dX8_compared_193 : decode cX8_compared 193 = .ok (.aload_n 0, 1) := by decide +kernel
theorem dX8_compared_194 : decode cX8_compared 194 = .ok (.getfield 23, 3) := by decide +kernel
theorem dX8_compared_197 : decode cX8_compared 197 = .ok (.iload_n 3, 1) := by decide +kernel
theorem dX8_compared_198 : decode cX8_compared 198 = .ok (.iaload, 1) := by decide +kernel
theorem dX8_compared_199 : decode cX8_compared 199 = .ok (.if_icmp .ge 69, 3) := by decide +kernel
theorem dX8_compared_202 : decode cX8_compared 202 = .ok (.aload_n 0, 1) := by decide +kernel
theorem dX8_compared_203 : decode cX8_compared 203 = .ok (.iload_n 3, 1) := by decide +kernel
theorem dX8_compared_204 : decode cX8_compared 204 = .ok (.iload 5, 2) := by decide +kernel
theorem dX8_compared_206 : decode cX8_compared 206 = .ok (.invokevirtual 90, 3) := by decide +kernel
theorem dX8_compared_209 : decode cX8_compared 209 = .ok (.lstore 6, 2) := by decide +kernel
theorem dX8_compared_211 : decode cX8_compared 211 = .ok (.aload_n 0, 1) := by decide +kernel
theorem dX8_compared_212 : decode cX8_compared 212 = .ok (.iload 4, 2) := by decide +kernel
theorem dX8_compared_214 : decode cX8_compared 214 = .ok (.iload 5, 2) := by decide +kernel
theorem dX8_compared_216 : decode cX8_compared 216 = .ok (.invokevirtual 90, 3) := by decide +kernel
theorem dX8_compared_219 : decode cX8_compared 219 = .ok (.lstore 8, 2) := by decide +kernel
theorem dX8_compared_221 : decode cX8_compared 221 = .ok (.lload 6, 2) := by decide +kernel
theorem dX8_compared_223 : decode cX8_compared 223 = .ok (.lload 8, 2) := by decide +kernel
theorem dX8_compared_225 : decode cX8_compared 225 = .ok (.lcmp, 1) := by decide +kernel
theorem dX8_compared_226 : decode cX8_compared 226 = .ok (.ifCond .eq 36, 3) := by decide +kernel
theorem dX8_compared_229 : decode cX8_compared 229 = .ok (.aload_n 0, 1) := by decide +kernel
theorem dX8_compared_230 : decode cX8_compared 230 = .ok (.getfield 20, 3) := by decide +kernel
theorem dX8_compared_233 : decode cX8_compared 233 = .ok (.iload_n 3, 1) := by decide +kernel
theorem dX8_compared_234 : decode cX8_compared 234 = .ok (.iaload, 1) := by decide +kernel
theorem dX8_compared_235 : decode cX8_compared 235 = .ok (.ifCond .ne 19, 3) := by decide +kernel
theorem dX8_compared_238 : decode cX8_compared 238 = .ok (.lload 6, 2) := by decide +kernel
theorem dX8_compared_240 : decode cX8_compared 240 = .ok (.invokestatic 174, 3) := by decide +kernel
theorem dX8_compared_243 : decode cX8_compared 243 = .ok (.lload 8, 2) := by decide +kernel
theorem dX8_compared_245 : decode cX8_compared 245 = .ok (.invokestatic 174, 3) := by decide +kernel
theorem dX8_compared_248 : decode cX8_compared 248 = .ok (.invokestatic 166, 3) := by decide +kernel
theorem dX8_compared_251 : decode cX8_compared 251 = .ok (.goto 10, 3) := by decide +kernel
theorem dX8_compared_254 : decode cX8_compared 254 = .ok (.lload 6, 2) := by decide +kernel
theorem dX8_compared_256 : decode cX8_compared 256 = .ok (.lload 8, 2) := by decide +kernel
theorem dX8_compared_258 : decode cX8_compared 258 = .ok (.invokestatic 166, 3) := by decide +kernel
theorem dX8_compared_261 : decode cX8_compared 261 = .ok (.ireturn, 1) := by decide +kernel
theorem dX8_compared_262 : decode cX8_compared 262 = .ok (.iinc 5 1, 3) := by decide +kernel
theorem dX8_compared_265 : decode cX8_compared 265 = .ok (.goto (-74), 3) := by decide +kernel
theorem dX8_compared_268 : decode cX8_compared 268 = .ok (.iconst 0, 1) := by decide +kernel
theorem dX8_compared_269 : decode cX8_compared 269 = .ok (.ireturn, 1) := by decide +kernel
theorem dX8_ordered_0 : decode cX8_ordered 0 = .ok (.aload_n 0, 1) := by decide +kernel
theorem dX8_ordered_1 : decode cX8_ordered 1 = .ok (.getfield 34, 3) := by decide +kernel
theorem dX8_ordered_4 : decode cX8_ordered 4 = .ok (.iload_n 1, 1) := by decide +kernel
theorem dX8_ordered_5 : decode cX8_ordered 5 = .ok (.iaload, 1) := by decide +kernel
theorem dX8_ordered_6 : decode cX8_ordered 6 = .ok (.aload_n 0, 1) := by decide +kernel
theorem dX8_ordered_7 : decode cX8_ordered 7 = .ok (.getfield 34, 3) := by decide +kernel
theorem dX8_ordered_10 : decode cX8_ordered 10 = .ok (.iload_n 2, 1) := by decide +kernel
theorem dX8_ordered_11 : decode cX8_ordered 11 = .ok (.iaload, 1) := by decide +kernel
theorem dX8_ordered_12 : decode cX8_ordered 12 = .ok (.if_icmp .ne 7, 3) := by decide +kernel
theorem dX8_ordered_15 : decode cX8_ordered 15 = .ok (.iconst 0, 1) := by decide +kernel
theorem dX8_ordered_16 : decode cX8_ordered 16 = .ok (.goto 9, 3) := by decide +kernel
theorem dX8_ordered_19 : decode cX8_ordered 19 = .ok (.aload_n 0, 1) := by decide +kernel
theorem dX8_ordered_20 : decode cX8_ordered 20 = .ok (.iload_n 1, 1) := by decide +kernel
theorem dX8_ordered_21 : decode cX8_ordered 21 = .ok (.iload_n 2, 1) := by decide +kernel
theorem dX8_ordered_22 : decode cX8_ordered 22 = .ok (.invokevirtual 177, 3) := by decide +kernel
theorem dX8_ordered_25 : decode cX8_ordered 25 = .ok (.ireturn, 1) := by decide +kernel
theorem dX8_order_0 : decode cX8_order 0 = .ok (.aload_n 0, 1) := by decide +kernel
theorem dX8_order_1 : decode cX8_order 1 = .ok (.iload_n 1, 1) := by decide +kernel
theorem dX8_order_2 : decode cX8_order 2 = .ok (.invokevirtual 139, 3) := by decide +kernel
theorem dX8_order_5 : decode cX8_order 5 = .ok (.ifCond .eq 20, 3) := by decide +kernel
theorem dX8_order_8 : decode cX8_order 8 = .ok (.aload_n 0, 1) := by decide +kernel
theorem dX8_order_9 : decode cX8_order 9 = .ok (.iload_n 2, 1) := by decide +kernel
theorem dX8_order_10 : decode cX8_order 10 = .ok (.invokevirtual 139, 3) := by decide +kernel
theorem dX8_order_13 : decode cX8_order 13 = .ok (.ifCond .eq 12, 3) := by decide +kernel
theorem dX8_order_16 : decode cX8_order 16 = .ok (.aload_n 0, 1) := by decide +kernel
theorem dX8_order_17 : decode cX8_order 17 = .ok (.iload_n 1, 1) := by decide +kernel
theorem dX8_order_18 : decode cX8_order 18 = .ok (.iload_n 2, 1) := by decide +kernel
theorem dX8_order_19 : decode cX8_order 19 = .ok (.invokevirtual 180, 3) := by decide +kernel
theorem dX8_order_22 : decode cX8_order 22 = .ok (.goto 5, 3) := by decide +kernel
theorem dX8_order_25 : decode cX8_order 25 = .ok (.bipush (-2), 2) := by decide +kernel
theorem dX8_order_27 : decode cX8_order 27 = .ok (.ireturn, 1) := by decide +kernel
theorem dX8_ranked_0 : decode cX8_ranked 0 = .ok (.iload_n 1, 1) := by decide +kernel
theorem dX8_ranked_1 : decode cX8_ranked 1 = .ok (.ifCond .ge 6, 3) := by decide +kernel
theorem dX8_ranked_4 : decode cX8_ranked 4 = .ok (.bipush (-2), 2) := by decide +kernel
theorem dX8_ranked_6 : decode cX8_ranked 6 = .ok (.ireturn, 1) := by decide +kernel
theorem dX8_ranked_7 : decode cX8_ranked 7 = .ok (.iconst 0, 1) := by decide +kernel
theorem dX8_ranked_8 : decode cX8_ranked 8 = .ok (.istore_n 2, 1) := by decide +kernel
theorem dX8_ranked_9 : decode cX8_ranked 9 = .ok (.iload_n 2, 1) := by decide +kernel
theorem dX8_ranked_10 : decode cX8_ranked 10 = .ok (.aload_n 0, 1) := by decide +kernel
theorem dX8_ranked_11 : decode cX8_ranked 11 = .ok (.getfield 83, 3) := by decide +kernel
theorem dX8_ranked_14 : decode cX8_ranked 14 = .ok (.if_icmp .ge 69, 3) := by decide +kernel
theorem dX8_ranked_17 : decode cX8_ranked 17 = .ok (.iconst 0, 1) := by decide +kernel
theorem dX8_ranked_18 : decode cX8_ranked 18 = .ok (.istore_n 3, 1) := by decide +kernel
theorem dX8_ranked_19 : decode cX8_ranked 19 = .ok (.iconst 0, 1) := by decide +kernel
theorem dX8_ranked_20 : decode cX8_ranked 20 = .ok (.istore 4, 2) := by decide +kernel
theorem dX8_ranked_22 : decode cX8_ranked 22 = .ok (.iload 4, 2) := by decide +kernel
theorem dX8_ranked_24 : decode cX8_ranked 24 = .ok (.aload_n 0, 1) := by decide +kernel
theorem dX8_ranked_25 : decode cX8_ranked 25 = .ok (.getfield 83, 3) := by decide +kernel
theorem dX8_ranked_28 : decode cX8_ranked 28 = .ok (.if_icmp .ge 42, 3) := by decide +kernel
theorem dX8_ranked_31 : decode cX8_ranked 31 = .ok (.aload_n 0, 1) := by decide +kernel
theorem dX8_ranked_32 : decode cX8_ranked 32 = .ok (.iload 4, 2) := by decide +kernel
theorem dX8_ranked_34 : decode cX8_ranked 34 = .ok (.iload_n 2, 1) := by decide +kernel
theorem dX8_ranked_35 : decode cX8_ranked 35 = .ok (.invokevirtual 180, 3) := by decide +kernel
theorem dX8_ranked_38 : decode cX8_ranked 38 = .ok (.istore 5, 2) := by decide +kernel
theorem dX8_ranked_40 : decode cX8_ranked 40 = .ok (.iload_n 3, 1) := by decide +kernel
theorem dX8_ranked_41 : decode cX8_ranked 41 = .ok (.iload 5, 2) := by decide +kernel
theorem dX8_ranked_43 : decode cX8_ranked 43 = .ok (.ifCond .lt 14, 3) := by decide +kernel
theorem dX8_ranked_46 : decode cX8_ranked 46 = .ok (.iload 5, 2) := by decide +kernel
theorem dX8_ranked_48 : decode cX8_ranked 48 = .ok (.ifCond .ne 13, 3) := by decide +kernel
theorem dX8_ranked_51 : decode cX8_ranked 51 = .ok (.iload 4, 2) := by decide +kernel
theorem dX8_ranked_53 : decode cX8_ranked 53 = .ok (.iload_n 2, 1) := by decide +kernel
theorem dX8_ranked_54 : decode cX8_ranked 54 = .ok (.if_icmp .ge 7, 3) := by decide +kernel
theorem dX8_ranked_57 : decode cX8_ranked 57 = .ok (.iconst 1, 1) := by decide +kernel
theorem dX8_ranked_58 : decode cX8_ranked 58 = .ok (.goto 4, 3) := by decide +kernel
theorem dX8_ranked_61 : decode cX8_ranked 61 = .ok (.iconst 0, 1) := by decide +kernel
theorem dX8_ranked_62 : decode cX8_ranked 62 = .ok (.iadd, 1) := by decide +kernel
theorem dX8_ranked_63 : decode cX8_ranked 63 = .ok (.istore_n 3, 1) := by decide +kernel
theorem dX8_ranked_64 : decode cX8_ranked 64 = .ok (.iinc 4 1, 3) := by decide +kernel
theorem dX8_ranked_67 : decode cX8_ranked 67 = .ok (.goto (-45), 3) := by decide +kernel
theorem dX8_ranked_70 : decode cX8_ranked 70 = .ok (.iload_n 3, 1) := by decide +kernel
theorem dX8_ranked_71 : decode cX8_ranked 71 = .ok (.iload_n 1, 1) := by decide +kernel
theorem dX8_ranked_72 : decode cX8_ranked 72 = .ok (.if_icmp .ne 5, 3) := by decide +kernel
theorem dX8_ranked_75 : decode cX8_ranked 75 = .ok (.iload_n 2, 1) := by decide +kernel
theorem dX8_ranked_76 : decode cX8_ranked 76 = .ok (.ireturn, 1) := by decide +kernel
theorem dX8_ranked_77 : decode cX8_ranked 77 = .ok (.iinc 2 1, 3) := by decide +kernel
theorem dX8_ranked_80 : decode cX8_ranked 80 = .ok (.goto (-71), 3) := by decide +kernel
theorem dX8_ranked_83 : decode cX8_ranked 83 = .ok (.iconst (-1), 1) := by decide +kernel
theorem dX8_ranked_84 : decode cX8_ranked 84 = .ok (.ireturn, 1) := by decide +kernel
theorem dX8_told4_0 : decode cX8_told4 0 = .ok (.iload_n 0, 1) := by decide +kernel
theorem dX8_told4_1 : decode cX8_told4 1 = .ok (.ifCond .ne 7, 3) := by decide +kernel
theorem dX8_told4_4 : decode cX8_told4 4 = .ok (.iload_n 1, 1) := by decide +kernel
theorem dX8_told4_5 : decode cX8_told4 5 = .ok (.goto 23, 3) := by decide +kernel
theorem dX8_told4_8 : decode cX8_told4 8 = .ok (.iload_n 0, 1) := by decide +kernel
theorem dX8_told4_9 : decode cX8_told4 9 = .ok (.iconst 1, 1) := by decide +kernel
theorem dX8_told4_10 : decode cX8_told4 10 = .ok (.if_icmp .ne 7, 3) := by decide +kernel
theorem dX8_told4_13 : decode cX8_told4 13 = .ok (.iload_n 2, 1) := by decide +kernel
theorem dX8_told4_14 : decode cX8_told4 14 = .ok (.goto 14, 3) := by decide +kernel
theorem dX8_told4_17 : decode cX8_told4 17 = .ok (.iload_n 0, 1) := by decide +kernel
theorem dX8_told4_18 : decode cX8_told4 18 = .ok (.iconst 2, 1) := by decide +kernel
theorem dX8_told4_19 : decode cX8_told4 19 = .ok (.if_icmp .ne 7, 3) := by decide +kernel
theorem dX8_told4_22 : decode cX8_told4 22 = .ok (.iload_n 3, 1) := by decide +kernel
theorem dX8_told4_23 : decode cX8_told4 23 = .ok (.goto 5, 3) := by decide +kernel
theorem dX8_told4_26 : decode cX8_told4 26 = .ok (.iload 4, 2) := by decide +kernel
theorem dX8_told4_28 : decode cX8_told4 28 = .ok (.ireturn, 1) := by decide +kernel
theorem dX8_family_0 : decode cX8_family 0 = .ok (.iconst 0, 1) := by decide +kernel
theorem dX8_family_1 : decode cX8_family 1 = .ok (.istore 5, 2) := by decide +kernel
theorem dX8_family_3 : decode cX8_family 3 = .ok (.iconst 0, 1) := by decide +kernel
theorem dX8_family_4 : decode cX8_family 4 = .ok (.istore 6, 2) := by decide +kernel
theorem dX8_family_6 : decode cX8_family 6 = .ok (.iload 6, 2) := by decide +kernel
theorem dX8_family_8 : decode cX8_family 8 = .ok (.iconst 4, 1) := by decide +kernel
theorem dX8_family_9 : decode cX8_family 9 = .ok (.if_icmp .ge 73, 3) := by decide +kernel
theorem dX8_family_12 : decode cX8_family 12 = .ok (.iload 6, 2) := by decide +kernel
theorem dX8_family_14 : decode cX8_family 14 = .ok (.iload_n 1, 1) := by decide +kernel
theorem dX8_family_15 : decode cX8_family 15 = .ok (.iload_n 2, 1) := by decide +kernel
theorem dX8_family_16 : decode cX8_family 16 = .ok (.iload_n 3, 1) := by decide +kernel
theorem dX8_family_17 : decode cX8_family 17 = .ok (.iload 4, 2) := by decide +kernel
theorem dX8_family_19 : decode cX8_family 19 = .ok (.invokestatic 183, 3) := by decide +kernel
theorem dX8_family_22 : decode cX8_family 22 = .ok (.istore 7, 2) := by decide +kernel
theorem dX8_family_24 : decode cX8_family 24 = .ok (.iload 7, 2) := by decide +kernel
theorem dX8_family_26 : decode cX8_family 26 = .ok (.iconst (-1), 1) := by decide +kernel
theorem dX8_family_27 : decode cX8_family 27 = .ok (.if_icmp .lt 27, 3) := by decide +kernel
theorem dX8_family_30 : decode cX8_family 30 = .ok (.iload 7, 2) := by decide +kernel
theorem dX8_family_32 : decode cX8_family 32 = .ok (.bipush 6, 2) := by decide +kernel
theorem dX8_family_34 : decode cX8_family 34 = .ok (.if_icmp .gt 20, 3) := by decide +kernel
theorem dX8_family_37 : decode cX8_family 37 = .ok (.iload 7, 2) := by decide +kernel
theorem dX8_family_39 : decode cX8_family 39 = .ok (.iconst (-1), 1) := by decide +kernel
theorem dX8_family_40 : decode cX8_family 40 = .ok (.if_icmp .eq 17, 3) := by decide +kernel
theorem dX8_family_43 : decode cX8_family 43 = .ok (.iload 5, 2) := by decide +kernel
theorem dX8_family_45 : decode cX8_family 45 = .ok (.iload 7, 2) := by decide +kernel
theorem dX8_family_47 : decode cX8_family 47 = .ok (.ishr, 1) := by decide +kernel
theorem dX8_family_48 : decode cX8_family 48 = .ok (.iconst 1, 1) := by decide +kernel
theorem dX8_family_49 : decode cX8_family 49 = .ok (.iand, 1) := by decide +kernel
theorem dX8_family_50 : decode cX8_family 50 = .ok (.iconst 1, 1) := by decide +kernel
theorem dX8_family_51 : decode cX8_family 51 = .ok (.if_icmp .ne 6, 3) := by decide +kernel
theorem dX8_family_54 : decode cX8_family 54 = .ok (.bipush (-2), 2) := by decide +kernel
theorem dX8_family_56 : decode cX8_family 56 = .ok (.ireturn, 1) := by decide +kernel
theorem dX8_family_57 : decode cX8_family 57 = .ok (.iload 5, 2) := by decide +kernel
theorem dX8_family_59 : decode cX8_family 59 = .ok (.iload 7, 2) := by decide +kernel
theorem dX8_family_61 : decode cX8_family 61 = .ok (.iconst (-1), 1) := by decide +kernel
theorem dX8_family_62 : decode cX8_family 62 = .ok (.if_icmp .ne 7, 3) := by decide +kernel
theorem dX8_family_65 : decode cX8_family 65 = .ok (.iconst 0, 1) := by decide +kernel
theorem dX8_family_66 : decode cX8_family 66 = .ok (.goto 7, 3) := by decide +kernel
theorem dX8_family_69 : decode cX8_family 69 = .ok (.iconst 1, 1) := by decide +kernel
theorem dX8_family_70 : decode cX8_family 70 = .ok (.iload 7, 2) := by decide +kernel
theorem dX8_family_72 : decode cX8_family 72 = .ok (.ishl, 1) := by decide +kernel
theorem dX8_family_73 : decode cX8_family 73 = .ok (.ior, 1) := by decide +kernel
theorem dX8_family_74 : decode cX8_family 74 = .ok (.istore 5, 2) := by decide +kernel
theorem dX8_family_76 : decode cX8_family 76 = .ok (.iinc 6 1, 3) := by decide +kernel
theorem dX8_family_79 : decode cX8_family 79 = .ok (.goto (-73), 3) := by decide +kernel
theorem dX8_family_82 : decode cX8_family 82 = .ok (.aload_n 0, 1) := by decide +kernel
theorem dX8_family_83 : decode cX8_family 83 = .ok (.getfield 187, 3) := by decide +kernel
theorem dX8_family_86 : decode cX8_family 86 = .ok (.bipush 6, 2) := by decide +kernel
theorem dX8_family_88 : decode cX8_family 88 = .ok (.if_icmp .ne 6, 3) := by decide +kernel
theorem dX8_family_91 : decode cX8_family 91 = .ok (.bipush (-3), 2) := by decide +kernel
theorem dX8_family_93 : decode cX8_family 93 = .ok (.ireturn, 1) := by decide +kernel
theorem dX8_family_94 : decode cX8_family 94 = .ok (.iconst 0, 1) := by decide +kernel
theorem dX8_family_95 : decode cX8_family 95 = .ok (.istore 6, 2) := by decide +kernel
theorem dX8_family_97 : decode cX8_family 97 = .ok (.iconst 0, 1) := by decide +kernel
theorem dX8_family_98 : decode cX8_family 98 = .ok (.istore 7, 2) := by decide +kernel
theorem dX8_family_100 : decode cX8_family 100 = .ok (.iload 7, 2) := by decide +kernel
theorem dX8_family_102 : decode cX8_family 102 = .ok (.iconst 4, 1) := by decide +kernel
theorem dX8_family_103 : decode cX8_family 103 = .ok (.if_icmp .ge 49, 3) := by decide +kernel
theorem dX8_family_106 : decode cX8_family 106 = .ok (.iload 7, 2) := by decide +kernel
theorem dX8_family_108 : decode cX8_family 108 = .ok (.iload_n 1, 1) := by decide +kernel
theorem dX8_family_109 : decode cX8_family 109 = .ok (.iload_n 2, 1) := by decide +kernel
theorem dX8_family_110 : decode cX8_family 110 = .ok (.iload_n 3, 1) := by decide +kernel
theorem dX8_family_111 : decode cX8_family 111 = .ok (.iload 4, 2) := by decide +kernel
theorem dX8_family_113 : decode cX8_family 113 = .ok (.invokestatic 183, 3) := by decide +kernel
theorem dX8_family_116 : decode cX8_family 116 = .ok (.istore 8, 2) := by decide +kernel
theorem dX8_family_118 : decode cX8_family 118 = .ok (.iload 8, 2) := by decide +kernel
theorem dX8_family_120 : decode cX8_family 120 = .ok (.iconst (-1), 1) := by decide +kernel
theorem dX8_family_121 : decode cX8_family 121 = .ok (.if_icmp .ne 6, 3) := by decide +kernel
theorem dX8_family_124 : decode cX8_family 124 = .ok (.goto 22, 3) := by decide +kernel
theorem dX8_family_127 : decode cX8_family 127 = .ok (.aload_n 0, 1) := by decide +kernel
theorem dX8_family_128 : decode cX8_family 128 = .ok (.getfield 46, 3) := by decide +kernel
theorem dX8_family_131 : decode cX8_family 131 = .ok (.iconst 4, 1) := by decide +kernel
theorem dX8_family_132 : decode cX8_family 132 = .ok (.aload_n 0, 1) := by decide +kernel
theorem dX8_family_133 : decode cX8_family 133 = .ok (.getfield 187, 3) := by decide +kernel
theorem dX8_family_136 : decode cX8_family 136 = .ok (.imul, 1) := by decide +kernel
theorem dX8_family_137 : decode cX8_family 137 = .ok (.iload 6, 2) := by decide +kernel
theorem dX8_family_139 : decode cX8_family 139 = .ok (.iadd, 1) := by decide +kernel
theorem dX8_family_140 : decode cX8_family 140 = .ok (.iload 8, 2) := by decide +kernel
theorem dX8_family_142 : decode cX8_family 142 = .ok (.iastore, 1) := by decide +kernel
theorem dX8_family_143 : decode cX8_family 143 = .ok (.iinc 6 1, 3) := by decide +kernel
theorem dX8_family_146 : decode cX8_family 146 = .ok (.iinc 7 1, 3) := by decide +kernel
theorem dX8_family_149 : decode cX8_family 149 = .ok (.goto (-49), 3) := by decide +kernel
theorem dX8_family_152 : decode cX8_family 152 = .ok (.aload_n 0, 1) := by decide +kernel
theorem dX8_family_153 : decode cX8_family 153 = .ok (.getfield 43, 3) := by decide +kernel
theorem dX8_family_156 : decode cX8_family 156 = .ok (.aload_n 0, 1) := by decide +kernel
theorem dX8_family_157 : decode cX8_family 157 = .ok (.getfield 187, 3) := by decide +kernel
theorem dX8_family_160 : decode cX8_family 160 = .ok (.iload 6, 2) := by decide +kernel
theorem dX8_family_162 : decode cX8_family 162 = .ok (.iastore, 1) := by decide +kernel
theorem dX8_family_163 : decode cX8_family 163 = .ok (.aload_n 0, 1) := by decide +kernel
theorem dX8_family_164 : decode cX8_family 164 = .ok (.dup, 1) := by decide +kernel
theorem dX8_family_165 : decode cX8_family 165 = .ok (.getfield 187, 3) := by decide +kernel
theorem dX8_family_168 : decode cX8_family 168 = .ok (.iconst 1, 1) := by decide +kernel
theorem dX8_family_169 : decode cX8_family 169 = .ok (.iadd, 1) := by decide +kernel
theorem dX8_family_170 : decode cX8_family 170 = .ok (.putfield 187, 3) := by decide +kernel
theorem dX8_family_173 : decode cX8_family 173 = .ok (.aload_n 0, 1) := by decide +kernel
theorem dX8_family_174 : decode cX8_family 174 = .ok (.getfield 187, 3) := by decide +kernel
theorem dX8_family_177 : decode cX8_family 177 = .ok (.iconst 1, 1) := by decide +kernel
theorem dX8_family_178 : decode cX8_family 178 = .ok (.isub, 1) := by decide +kernel
theorem dX8_family_179 : decode cX8_family 179 = .ok (.ireturn, 1) := by decide +kernel
theorem dX8_tagOf_0 : decode cX8_tagOf 0 = .ok (.iconst (-1), 1) := by decide +kernel
theorem dX8_tagOf_1 : decode cX8_tagOf 1 = .ok (.istore_n 3, 1) := by decide +kernel
theorem dX8_tagOf_2 : decode cX8_tagOf 2 = .ok (.iconst 0, 1) := by decide +kernel
theorem dX8_tagOf_3 : decode cX8_tagOf 3 = .ok (.istore 4, 2) := by decide +kernel
theorem dX8_tagOf_5 : decode cX8_tagOf 5 = .ok (.iconst 0, 1) := by decide +kernel
theorem dX8_tagOf_6 : decode cX8_tagOf 6 = .ok (.istore 5, 2) := by decide +kernel
theorem dX8_tagOf_8 : decode cX8_tagOf 8 = .ok (.iload 5, 2) := by decide +kernel
theorem dX8_tagOf_10 : decode cX8_tagOf 10 = .ok (.aload_n 0, 1) := by decide +kernel
theorem dX8_tagOf_11 : decode cX8_tagOf 11 = .ok (.getfield 43, 3) := by decide +kernel
theorem dX8_tagOf_14 : decode cX8_tagOf 14 = .ok (.iload_n 1, 1) := by decide +kernel
theorem dX8_tagOf_15 : decode cX8_tagOf 15 = .ok (.iaload, 1) := by decide +kernel
theorem dX8_tagOf_16 : decode cX8_tagOf 16 = .ok (.if_icmp .ge 66, 3) := by decide +kernel
theorem dX8_tagOf_19 : decode cX8_tagOf 19 = .ok (.aload_n 0, 1) := by decide +kernel
theorem dX8_tagOf_20 : decode cX8_tagOf 20 = .ok (.getfield 46, 3) := by decide +kernel
theorem dX8_tagOf_23 : decode cX8_tagOf 23 = .ok (.iconst 4, 1) := by decide +kernel
theorem dX8_tagOf_24 : decode cX8_tagOf 24 = .ok (.iload_n 1, 1) := by decide +kernel
theorem dX8_tagOf_25 : decode cX8_tagOf 25 = .ok (.imul, 1) := by decide +kernel
theorem dX8_tagOf_26 : decode cX8_tagOf 26 = .ok (.iload 5, 2) := by decide +kernel
theorem dX8_tagOf_28 : decode cX8_tagOf 28 = .ok (.iadd, 1) := by decide +kernel
theorem dX8_tagOf_29 : decode cX8_tagOf 29 = .ok (.iaload, 1) := by decide +kernel
theorem dX8_tagOf_30 : decode cX8_tagOf 30 = .ok (.istore 6, 2) := by decide +kernel
theorem dX8_tagOf_32 : decode cX8_tagOf 32 = .ok (.iload 6, 2) := by decide +kernel
theorem dX8_tagOf_34 : decode cX8_tagOf 34 = .ok (.aload_n 0, 1) := by decide +kernel
theorem dX8_tagOf_35 : decode cX8_tagOf 35 = .ok (.getfield 20, 3) := by decide +kernel
theorem dX8_tagOf_38 : decode cX8_tagOf 38 = .ok (.iload_n 2, 1) := by decide +kernel
theorem dX8_tagOf_39 : decode cX8_tagOf 39 = .ok (.iaload, 1) := by decide +kernel
theorem dX8_tagOf_40 : decode cX8_tagOf 40 = .ok (.if_icmp .ne 12, 3) := by decide +kernel
theorem dX8_tagOf_43 : decode cX8_tagOf 43 = .ok (.iload 5, 2) := by decide +kernel
theorem dX8_tagOf_45 : decode cX8_tagOf 45 = .ok (.istore_n 3, 1) := by decide +kernel
theorem dX8_tagOf_46 : decode cX8_tagOf 46 = .ok (.iconst 1, 1) := by decide +kernel
theorem dX8_tagOf_47 : decode cX8_tagOf 47 = .ok (.istore 4, 2) := by decide +kernel
theorem dX8_tagOf_49 : decode cX8_tagOf 49 = .ok (.goto 27, 3) := by decide +kernel
theorem dX8_tagOf_52 : decode cX8_tagOf 52 = .ok (.iload 4, 2) := by decide +kernel
theorem dX8_tagOf_54 : decode cX8_tagOf 54 = .ok (.ifCond .ne 22, 3) := by decide +kernel
theorem dX8_tagOf_57 : decode cX8_tagOf 57 = .ok (.iload 6, 2) := by decide +kernel
theorem dX8_tagOf_59 : decode cX8_tagOf 59 = .ok (.iconst 1, 1) := by decide +kernel
theorem dX8_tagOf_60 : decode cX8_tagOf 60 = .ok (.if_icmp .ne 16, 3) := by decide +kernel
theorem dX8_tagOf_63 : decode cX8_tagOf 63 = .ok (.aload_n 0, 1) := by decide +kernel
theorem dX8_tagOf_64 : decode cX8_tagOf 64 = .ok (.getfield 20, 3) := by decide +kernel
theorem dX8_tagOf_67 : decode cX8_tagOf 67 = .ok (.iload_n 2, 1) := by decide +kernel
theorem dX8_tagOf_68 : decode cX8_tagOf 68 = .ok (.iaload, 1) := by decide +kernel
theorem dX8_tagOf_69 : decode cX8_tagOf 69 = .ok (.iconst 2, 1) := by decide +kernel
theorem dX8_tagOf_70 : decode cX8_tagOf 70 = .ok (.if_icmp .ne 6, 3) := by decide +kernel
theorem dX8_tagOf_73 : decode cX8_tagOf 73 = .ok (.iload 5, 2) := by decide +kernel
theorem dX8_tagOf_75 : decode cX8_tagOf 75 = .ok (.istore_n 3, 1) := by decide +kernel
theorem dX8_tagOf_76 : decode cX8_tagOf 76 = .ok (.iinc 5 1, 3) := by decide +kernel
theorem dX8_tagOf_79 : decode cX8_tagOf 79 = .ok (.goto (-71), 3) := by decide +kernel
theorem dX8_tagOf_82 : decode cX8_tagOf 82 = .ok (.iload_n 3, 1) := by decide +kernel
theorem dX8_tagOf_83 : decode cX8_tagOf 83 = .ok (.ireturn, 1) := by decide +kernel
theorem dX8_tag_0 : decode cX8_tag 0 = .ok (.iload_n 1, 1) := by decide +kernel
theorem dX8_tag_1 : decode cX8_tag 1 = .ok (.ifCond .lt 19, 3) := by decide +kernel
theorem dX8_tag_4 : decode cX8_tag 4 = .ok (.iload_n 1, 1) := by decide +kernel
theorem dX8_tag_5 : decode cX8_tag 5 = .ok (.aload_n 0, 1) := by decide +kernel
theorem dX8_tag_6 : decode cX8_tag 6 = .ok (.getfield 187, 3) := by decide +kernel
theorem dX8_tag_9 : decode cX8_tag 9 = .ok (.if_icmp .ge 11, 3) := by decide +kernel
theorem dX8_tag_12 : decode cX8_tag 12 = .ok (.aload_n 0, 1) := by decide +kernel
theorem dX8_tag_13 : decode cX8_tag 13 = .ok (.iload_n 2, 1) := by decide +kernel
theorem dX8_tag_14 : decode cX8_tag 14 = .ok (.invokevirtual 139, 3) := by decide +kernel
theorem dX8_tag_17 : decode cX8_tag 17 = .ok (.ifCond .ne 8, 3) := by decide +kernel
theorem dX8_tag_20 : decode cX8_tag 20 = .ok (.bipush (-2), 2) := by decide +kernel
theorem dX8_tag_22 : decode cX8_tag 22 = .ok (.goto 9, 3) := by decide +kernel
theorem dX8_tag_25 : decode cX8_tag 25 = .ok (.aload_n 0, 1) := by decide +kernel
theorem dX8_tag_26 : decode cX8_tag 26 = .ok (.iload_n 1, 1) := by decide +kernel
theorem dX8_tag_27 : decode cX8_tag 27 = .ok (.iload_n 2, 1) := by decide +kernel
theorem dX8_tag_28 : decode cX8_tag 28 = .ok (.invokevirtual 190, 3) := by decide +kernel
theorem dX8_tag_31 : decode cX8_tag 31 = .ok (.ireturn, 1) := by decide +kernel
theorem dX8_tagged_0 : decode cX8_tagged 0 = .ok (.iload_n 1, 1) := by decide +kernel
theorem dX8_tagged_1 : decode cX8_tagged 1 = .ok (.ifCond .lt 21, 3) := by decide +kernel
theorem dX8_tagged_4 : decode cX8_tagged 4 = .ok (.iload_n 1, 1) := by decide +kernel
theorem dX8_tagged_5 : decode cX8_tagged 5 = .ok (.aload_n 0, 1) := by decide +kernel
theorem dX8_tagged_6 : decode cX8_tagged 6 = .ok (.getfield 187, 3) := by decide +kernel
theorem dX8_tagged_9 : decode cX8_tagged 9 = .ok (.if_icmp .ge 13, 3) := by decide +kernel
theorem dX8_tagged_12 : decode cX8_tagged 12 = .ok (.iload_n 2, 1) := by decide +kernel
theorem dX8_tagged_13 : decode cX8_tagged 13 = .ok (.iconst (-1), 1) := by decide +kernel
theorem dX8_tagged_14 : decode cX8_tagged 14 = .ok (.if_icmp .lt 8, 3) := by decide +kernel
theorem dX8_tagged_17 : decode cX8_tagged 17 = .ok (.iload_n 2, 1) := by decide +kernel
theorem dX8_tagged_18 : decode cX8_tagged 18 = .ok (.iconst 3, 1) := by decide +kernel
theorem dX8_tagged_19 : decode cX8_tagged 19 = .ok (.if_icmp .le 6, 3) := by decide +kernel
theorem dX8_tagged_22 : decode cX8_tagged 22 = .ok (.bipush (-2), 2) := by decide +kernel
theorem dX8_tagged_24 : decode cX8_tagged 24 = .ok (.ireturn, 1) := by decide +kernel
theorem dX8_tagged_25 : decode cX8_tagged 25 = .ok (.iconst 0, 1) := by decide +kernel
theorem dX8_tagged_26 : decode cX8_tagged 26 = .ok (.istore_n 3, 1) := by decide +kernel
theorem dX8_tagged_27 : decode cX8_tagged 27 = .ok (.iconst 0, 1) := by decide +kernel
theorem dX8_tagged_28 : decode cX8_tagged 28 = .ok (.istore 4, 2) := by decide +kernel
theorem dX8_tagged_30 : decode cX8_tagged 30 = .ok (.iload 4, 2) := by decide +kernel
theorem dX8_tagged_32 : decode cX8_tagged 32 = .ok (.aload_n 0, 1) := by decide +kernel
theorem dX8_tagged_33 : decode cX8_tagged 33 = .ok (.getfield 83, 3) := by decide +kernel
theorem dX8_tagged_36 : decode cX8_tagged 36 = .ok (.if_icmp .ge 28, 3) := by decide +kernel
theorem dX8_tagged_39 : decode cX8_tagged 39 = .ok (.iload_n 3, 1) := by decide +kernel
theorem dX8_tagged_40 : decode cX8_tagged 40 = .ok (.aload_n 0, 1) := by decide +kernel
theorem dX8_tagged_41 : decode cX8_tagged 41 = .ok (.iload_n 1, 1) := by decide +kernel
theorem dX8_tagged_42 : decode cX8_tagged 42 = .ok (.iload 4, 2) := by decide +kernel
theorem dX8_tagged_44 : decode cX8_tagged 44 = .ok (.invokevirtual 190, 3) := by decide +kernel
theorem dX8_tagged_47 : decode cX8_tagged 47 = .ok (.iload_n 2, 1) := by decide +kernel
theorem dX8_tagged_48 : decode cX8_tagged 48 = .ok (.if_icmp .ne 7, 3) := by decide +kernel
theorem dX8_tagged_51 : decode cX8_tagged 51 = .ok (.iconst 1, 1) := by decide +kernel
theorem dX8_tagged_52 : decode cX8_tagged 52 = .ok (.goto 4, 3) := by decide +kernel
theorem dX8_tagged_55 : decode cX8_tagged 55 = .ok (.iconst 0, 1) := by decide +kernel
theorem dX8_tagged_56 : decode cX8_tagged 56 = .ok (.iadd, 1) := by decide +kernel
theorem dX8_tagged_57 : decode cX8_tagged 57 = .ok (.istore_n 3, 1) := by decide +kernel
theorem dX8_tagged_58 : decode cX8_tagged 58 = .ok (.iinc 4 1, 3) := by decide +kernel
theorem dX8_tagged_61 : decode cX8_tagged 61 = .ok (.goto (-31), 3) := by decide +kernel
theorem dX8_tagged_64 : decode cX8_tagged 64 = .ok (.iload_n 3, 1) := by decide +kernel
theorem dX8_tagged_65 : decode cX8_tagged 65 = .ok (.ireturn, 1) := by decide +kernel
theorem dX8_isEnumeration_0 : decode cX8_isEnumeration 0 = .ok (.iload_n 0, 1) := by decide +kernel
theorem dX8_isEnumeration_1 : decode cX8_isEnumeration 1 = .ok (.ifCond .lt 12, 3) := by decide +kernel
theorem dX8_isEnumeration_4 : decode cX8_isEnumeration 4 = .ok (.iload_n 0, 1) := by decide +kernel
theorem dX8_isEnumeration_5 : decode cX8_isEnumeration 5 = .ok (.iconst 4, 1) := by decide +kernel
theorem dX8_isEnumeration_6 : decode cX8_isEnumeration 6 = .ok (.if_icmp .ge 7, 3) := by decide +kernel
theorem dX8_isEnumeration_9 : decode cX8_isEnumeration 9 = .ok (.iconst 1, 1) := by decide +kernel
theorem dX8_isEnumeration_10 : decode cX8_isEnumeration 10 = .ok (.goto 4, 3) := by decide +kernel
theorem dX8_isEnumeration_13 : decode cX8_isEnumeration 13 = .ok (.iconst 0, 1) := by decide +kernel
theorem dX8_isEnumeration_14 : decode cX8_isEnumeration 14 = .ok (.ireturn, 1) := by decide +kernel
theorem dX8_isConstant_0 : decode cX8_isConstant 0 = .ok (.iload_n 1, 1) := by decide +kernel
theorem dX8_isConstant_1 : decode cX8_isConstant 1 = .ok (.ifCond .lt 15, 3) := by decide +kernel
theorem dX8_isConstant_4 : decode cX8_isConstant 4 = .ok (.iload_n 1, 1) := by decide +kernel
theorem dX8_isConstant_5 : decode cX8_isConstant 5 = .ok (.aload_n 0, 1) := by decide +kernel
theorem dX8_isConstant_6 : decode cX8_isConstant 6 = .ok (.getfield 193, 3) := by decide +kernel
theorem dX8_isConstant_9 : decode cX8_isConstant 9 = .ok (.if_icmp .ge 7, 3) := by decide +kernel
theorem dX8_isConstant_12 : decode cX8_isConstant 12 = .ok (.iconst 1, 1) := by decide +kernel
theorem dX8_isConstant_13 : decode cX8_isConstant 13 = .ok (.goto 4, 3) := by decide +kernel
theorem dX8_isConstant_16 : decode cX8_isConstant 16 = .ok (.iconst 0, 1) := by decide +kernel
theorem dX8_isConstant_17 : decode cX8_isConstant 17 = .ok (.ireturn, 1) := by decide +kernel
theorem dX8_constantAt_0 : decode cX8_constantAt 0 = .ok (.iconst 0, 1) := by decide +kernel
theorem dX8_constantAt_1 : decode cX8_constantAt 1 = .ok (.istore_n 3, 1) := by decide +kernel
theorem dX8_constantAt_2 : decode cX8_constantAt 2 = .ok (.iload_n 3, 1) := by decide +kernel
theorem dX8_constantAt_3 : decode cX8_constantAt 3 = .ok (.aload_n 0, 1) := by decide +kernel
theorem dX8_constantAt_4 : decode cX8_constantAt 4 = .ok (.getfield 193, 3) := by decide +kernel
theorem dX8_constantAt_7 : decode cX8_constantAt 7 = .ok (.if_icmp .ge 31, 3) := by decide +kernel
theorem dX8_constantAt_10 : decode cX8_constantAt 10 = .ok (.aload_n 0, 1) := by decide +kernel
theorem dX8_constantAt_11 : decode cX8_constantAt 11 = .ok (.getfield 49, 3) := by decide +kernel
theorem dX8_constantAt_14 : decode cX8_constantAt 14 = .ok (.iload_n 3, 1) := by decide +kernel
theorem dX8_constantAt_15 : decode cX8_constantAt 15 = .ok (.iaload, 1) := by decide +kernel
theorem dX8_constantAt_16 : decode cX8_constantAt 16 = .ok (.iload_n 1, 1) := by decide +kernel
theorem dX8_constantAt_17 : decode cX8_constantAt 17 = .ok (.if_icmp .ne 15, 3) := by decide +kernel
theorem dX8_constantAt_20 : decode cX8_constantAt 20 = .ok (.aload_n 0, 1) := by decide +kernel
theorem dX8_constantAt_21 : decode cX8_constantAt 21 = .ok (.getfield 55, 3) := by decide +kernel
theorem dX8_constantAt_24 : decode cX8_constantAt 24 = .ok (.iload_n 3, 1) := by decide +kernel
theorem dX8_constantAt_25 : decode cX8_constantAt 25 = .ok (.iaload, 1) := by decide +kernel
theorem dX8_constantAt_26 : decode cX8_constantAt 26 = .ok (.iload_n 2, 1) := by decide +kernel
theorem dX8_constantAt_27 : decode cX8_constantAt 27 = .ok (.if_icmp .ne 5, 3) := by decide +kernel
theorem dX8_constantAt_30 : decode cX8_constantAt 30 = .ok (.iload_n 3, 1) := by decide +kernel
theorem dX8_constantAt_31 : decode cX8_constantAt 31 = .ok (.ireturn, 1) := by decide +kernel
theorem dX8_constantAt_32 : decode cX8_constantAt 32 = .ok (.iinc 3 1, 3) := by decide +kernel
theorem dX8_constantAt_35 : decode cX8_constantAt 35 = .ok (.goto (-33), 3) := by decide +kernel
theorem dX8_constantAt_38 : decode cX8_constantAt 38 = .ok (.iconst (-1), 1) := by decide +kernel
theorem dX8_constantAt_39 : decode cX8_constantAt 39 = .ok (.ireturn, 1) := by decide +kernel
theorem dX8_constantOf_0 : decode cX8_constantOf 0 = .ok (.iconst 0, 1) := by decide +kernel
theorem dX8_constantOf_1 : decode cX8_constantOf 1 = .ok (.istore_n 3, 1) := by decide +kernel
theorem dX8_constantOf_2 : decode cX8_constantOf 2 = .ok (.iload_n 3, 1) := by decide +kernel
theorem dX8_constantOf_3 : decode cX8_constantOf 3 = .ok (.aload_n 0, 1) := by decide +kernel
theorem dX8_constantOf_4 : decode cX8_constantOf 4 = .ok (.getfield 193, 3) := by decide +kernel
theorem dX8_constantOf_7 : decode cX8_constantOf 7 = .ok (.if_icmp .ge 41, 3) := by decide +kernel
theorem dX8_constantOf_10 : decode cX8_constantOf 10 = .ok (.aload_n 0, 1) := by decide +kernel
theorem dX8_constantOf_11 : decode cX8_constantOf 11 = .ok (.getfield 49, 3) := by decide +kernel
theorem dX8_constantOf_14 : decode cX8_constantOf 14 = .ok (.iload_n 3, 1) := by decide +kernel
theorem dX8_constantOf_15 : decode cX8_constantOf 15 = .ok (.iaload, 1) := by decide +kernel
theorem dX8_constantOf_16 : decode cX8_constantOf 16 = .ok (.iload_n 1, 1) := by decide +kernel
theorem dX8_constantOf_17 : decode cX8_constantOf 17 = .ok (.if_icmp .ne 25, 3) := by decide +kernel
theorem dX8_constantOf_20 : decode cX8_constantOf 20 = .ok (.aload_n 0, 1) := by decide +kernel
theorem dX8_constantOf_21 : decode cX8_constantOf 21 = .ok (.getfield 52, 3) := by decide +kernel
theorem dX8_constantOf_24 : decode cX8_constantOf 24 = .ok (.iload_n 3, 1) := by decide +kernel
theorem dX8_constantOf_25 : decode cX8_constantOf 25 = .ok (.iaload, 1) := by decide +kernel
theorem dX8_constantOf_26 : decode cX8_constantOf 26 = .ok (.iload_n 2, 1) := by decide +kernel
theorem dX8_constantOf_27 : decode cX8_constantOf 27 = .ok (.if_icmp .ne 15, 3) := by decide +kernel
theorem dX8_constantOf_30 : decode cX8_constantOf 30 = .ok (.aload_n 0, 1) := by decide +kernel
theorem dX8_constantOf_31 : decode cX8_constantOf 31 = .ok (.getfield 55, 3) := by decide +kernel
theorem dX8_constantOf_34 : decode cX8_constantOf 34 = .ok (.iload_n 3, 1) := by decide +kernel
theorem dX8_constantOf_35 : decode cX8_constantOf 35 = .ok (.iaload, 1) := by decide +kernel
theorem dX8_constantOf_36 : decode cX8_constantOf 36 = .ok (.iconst (-1), 1) := by decide +kernel
theorem dX8_constantOf_37 : decode cX8_constantOf 37 = .ok (.if_icmp .eq 5, 3) := by decide +kernel
theorem dX8_constantOf_40 : decode cX8_constantOf 40 = .ok (.iload_n 3, 1) := by decide +kernel
theorem dX8_constantOf_41 : decode cX8_constantOf 41 = .ok (.ireturn, 1) := by decide +kernel
theorem dX8_constantOf_42 : decode cX8_constantOf 42 = .ok (.iinc 3 1, 3) := by decide +kernel
theorem dX8_constantOf_45 : decode cX8_constantOf 45 = .ok (.goto (-43), 3) := by decide +kernel
theorem dX8_constantOf_48 : decode cX8_constantOf 48 = .ok (.iconst (-1), 1) := by decide +kernel
theorem dX8_constantOf_49 : decode cX8_constantOf 49 = .ok (.ireturn, 1) := by decide +kernel
theorem dX8_constant_0 : decode cX8_constant 0 = .ok (.iload_n 1, 1) := by decide +kernel
theorem dX8_constant_1 : decode cX8_constant 1 = .ok (.invokestatic 196, 3) := by decide +kernel
theorem dX8_constant_4 : decode cX8_constant 4 = .ok (.ifCond .eq 24, 3) := by decide +kernel
theorem dX8_constant_7 : decode cX8_constant 7 = .ok (.iload_n 2, 1) := by decide +kernel
theorem dX8_constant_8 : decode cX8_constant 8 = .ok (.ifCond .lt 20, 3) := by decide +kernel
theorem dX8_constant_11 : decode cX8_constant 11 = .ok (.iload_n 2, 1) := by decide +kernel
theorem dX8_constant_12 : decode cX8_constant 12 = .ok (.sipush 10000, 3) := by decide +kernel
theorem dX8_constant_15 : decode cX8_constant 15 = .ok (.if_icmp .ge 13, 3) := by decide +kernel
theorem dX8_constant_18 : decode cX8_constant 18 = .ok (.aload_n 0, 1) := by decide +kernel
theorem dX8_constant_19 : decode cX8_constant 19 = .ok (.iload_n 1, 1) := by decide +kernel
theorem dX8_constant_20 : decode cX8_constant 20 = .ok (.iload_n 2, 1) := by decide +kernel
theorem dX8_constant_21 : decode cX8_constant 21 = .ok (.invokevirtual 199, 3) := by decide +kernel
theorem dX8_constant_24 : decode cX8_constant 24 = .ok (.iconst (-1), 1) := by decide +kernel
theorem dX8_constant_25 : decode cX8_constant 25 = .ok (.if_icmp .eq 6, 3) := by decide +kernel
theorem dX8_constant_28 : decode cX8_constant 28 = .ok (.bipush (-2), 2) := by decide +kernel
theorem dX8_constant_30 : decode cX8_constant 30 = .ok (.ireturn, 1) := by decide +kernel
theorem dX8_constant_31 : decode cX8_constant 31 = .ok (.aload_n 0, 1) := by decide +kernel
theorem dX8_constant_32 : decode cX8_constant 32 = .ok (.getfield 193, 3) := by decide +kernel
theorem dX8_constant_35 : decode cX8_constant 35 = .ok (.bipush 60, 2) := by decide +kernel
theorem dX8_constant_37 : decode cX8_constant 37 = .ok (.if_icmp .ne 6, 3) := by decide +kernel
theorem dX8_constant_40 : decode cX8_constant 40 = .ok (.bipush (-3), 2) := by decide +kernel
theorem dX8_constant_42 : decode cX8_constant 42 = .ok (.ireturn, 1) := by decide +kernel
theorem dX8_constant_43 : decode cX8_constant 43 = .ok (.aload_n 0, 1) := by decide +kernel
theorem dX8_constant_44 : decode cX8_constant 44 = .ok (.getfield 49, 3) := by decide +kernel
theorem dX8_constant_47 : decode cX8_constant 47 = .ok (.aload_n 0, 1) := by decide +kernel
theorem dX8_constant_48 : decode cX8_constant 48 = .ok (.getfield 193, 3) := by decide +kernel
theorem dX8_constant_51 : decode cX8_constant 51 = .ok (.iload_n 1, 1) := by decide +kernel
theorem dX8_constant_52 : decode cX8_constant 52 = .ok (.iastore, 1) := by decide +kernel
theorem dX8_constant_53 : decode cX8_constant 53 = .ok (.aload_n 0, 1) := by decide +kernel
theorem dX8_constant_54 : decode cX8_constant 54 = .ok (.getfield 52, 3) := by decide +kernel
theorem dX8_constant_57 : decode cX8_constant 57 = .ok (.aload_n 0, 1) := by decide +kernel
theorem dX8_constant_58 : decode cX8_constant 58 = .ok (.getfield 193, 3) := by decide +kernel
theorem dX8_constant_61 : decode cX8_constant 61 = .ok (.iload_n 2, 1) := by decide +kernel
theorem dX8_constant_62 : decode cX8_constant 62 = .ok (.iastore, 1) := by decide +kernel
theorem dX8_constant_63 : decode cX8_constant 63 = .ok (.aload_n 0, 1) := by decide +kernel
theorem dX8_constant_64 : decode cX8_constant 64 = .ok (.getfield 55, 3) := by decide +kernel
theorem dX8_constant_67 : decode cX8_constant 67 = .ok (.aload_n 0, 1) := by decide +kernel
theorem dX8_constant_68 : decode cX8_constant 68 = .ok (.getfield 193, 3) := by decide +kernel
theorem dX8_constant_71 : decode cX8_constant 71 = .ok (.aload_n 0, 1) := by decide +kernel
theorem dX8_constant_72 : decode cX8_constant 72 = .ok (.getfield 58, 3) := by decide +kernel
theorem dX8_constant_75 : decode cX8_constant 75 = .ok (.iload_n 1, 1) := by decide +kernel
theorem dX8_constant_76 : decode cX8_constant 76 = .ok (.iaload, 1) := by decide +kernel
theorem dX8_constant_77 : decode cX8_constant 77 = .ok (.iastore, 1) := by decide +kernel
theorem dX8_constant_78 : decode cX8_constant 78 = .ok (.aload_n 0, 1) := by decide +kernel
theorem dX8_constant_79 : decode cX8_constant 79 = .ok (.getfield 58, 3) := by decide +kernel
theorem dX8_constant_82 : decode cX8_constant 82 = .ok (.iload_n 1, 1) := by decide +kernel
theorem dX8_constant_83 : decode cX8_constant 83 = .ok (.dup2, 1) := by decide +kernel
theorem dX8_constant_84 : decode cX8_constant 84 = .ok (.iaload, 1) := by decide +kernel
theorem dX8_constant_85 : decode cX8_constant 85 = .ok (.iconst 1, 1) := by decide +kernel
theorem dX8_constant_86 : decode cX8_constant 86 = .ok (.iadd, 1) := by decide +kernel
theorem dX8_constant_87 : decode cX8_constant 87 = .ok (.iastore, 1) := by decide +kernel
theorem dX8_constant_88 : decode cX8_constant 88 = .ok (.aload_n 0, 1) := by decide +kernel
theorem dX8_constant_89 : decode cX8_constant 89 = .ok (.dup, 1) := by decide +kernel
theorem dX8_constant_90 : decode cX8_constant 90 = .ok (.getfield 193, 3) := by decide +kernel
theorem dX8_constant_93 : decode cX8_constant 93 = .ok (.iconst 1, 1) := by decide +kernel
theorem dX8_constant_94 : decode cX8_constant 94 = .ok (.iadd, 1) := by decide +kernel
theorem dX8_constant_95 : decode cX8_constant 95 = .ok (.putfield 193, 3) := by decide +kernel
theorem dX8_constant_98 : decode cX8_constant 98 = .ok (.aload_n 0, 1) := by decide +kernel
theorem dX8_constant_99 : decode cX8_constant 99 = .ok (.getfield 193, 3) := by decide +kernel
theorem dX8_constant_102 : decode cX8_constant 102 = .ok (.iconst 1, 1) := by decide +kernel
theorem dX8_constant_103 : decode cX8_constant 103 = .ok (.isub, 1) := by decide +kernel
theorem dX8_constant_104 : decode cX8_constant 104 = .ok (.ireturn, 1) := by decide +kernel
theorem dX8_named_0 : decode cX8_named 0 = .ok (.aload_n 0, 1) := by decide +kernel
theorem dX8_named_1 : decode cX8_named 1 = .ok (.invokevirtual 116, 3) := by decide +kernel
theorem dX8_named_4 : decode cX8_named 4 = .ok (.iload_n 1, 1) := by decide +kernel
theorem dX8_named_5 : decode cX8_named 5 = .ok (.invokestatic 196, 3) := by decide +kernel
theorem dX8_named_8 : decode cX8_named 8 = .ok (.ifCond .ne 6, 3) := by decide +kernel
theorem dX8_named_11 : decode cX8_named 11 = .ok (.bipush (-2), 2) := by decide +kernel
theorem dX8_named_13 : decode cX8_named 13 = .ok (.ireturn, 1) := by decide +kernel
theorem dX8_named_14 : decode cX8_named 14 = .ok (.aload_n 0, 1) := by decide +kernel
theorem dX8_named_15 : decode cX8_named 15 = .ok (.iload_n 1, 1) := by decide +kernel
theorem dX8_named_16 : decode cX8_named 16 = .ok (.iload_n 2, 1) := by decide +kernel
theorem dX8_named_17 : decode cX8_named 17 = .ok (.invokevirtual 199, 3) := by decide +kernel
theorem dX8_named_20 : decode cX8_named 20 = .ok (.istore_n 3, 1) := by decide +kernel
theorem dX8_named_21 : decode cX8_named 21 = .ok (.iload_n 3, 1) := by decide +kernel
theorem dX8_named_22 : decode cX8_named 22 = .ok (.iconst (-1), 1) := by decide +kernel
theorem dX8_named_23 : decode cX8_named 23 = .ok (.if_icmp .ne 13, 3) := by decide +kernel
theorem dX8_named_26 : decode cX8_named 26 = .ok (.aload_n 0, 1) := by decide +kernel
theorem dX8_named_27 : decode cX8_named 27 = .ok (.iconst 1, 1) := by decide +kernel
theorem dX8_named_28 : decode cX8_named 28 = .ok (.iconst (-1), 1) := by decide +kernel
theorem dX8_named_29 : decode cX8_named 29 = .ok (.iconst 0, 1) := by decide +kernel
theorem dX8_named_30 : decode cX8_named 30 = .ok (.invokevirtual 135, 3) := by decide +kernel
theorem dX8_named_33 : decode cX8_named 33 = .ok (.goto 4, 3) := by decide +kernel
theorem dX8_named_36 : decode cX8_named 36 = .ok (.iload_n 3, 1) := by decide +kernel
theorem dX8_named_37 : decode cX8_named 37 = .ok (.ireturn, 1) := by decide +kernel
theorem dX8_drop_0 : decode cX8_drop 0 = .ok (.aload_n 0, 1) := by decide +kernel
theorem dX8_drop_1 : decode cX8_drop 1 = .ok (.iload_n 1, 1) := by decide +kernel
theorem dX8_drop_2 : decode cX8_drop 2 = .ok (.invokevirtual 202, 3) := by decide +kernel
theorem dX8_drop_5 : decode cX8_drop 5 = .ok (.ifCond .eq 13, 3) := by decide +kernel
theorem dX8_drop_8 : decode cX8_drop 8 = .ok (.aload_n 0, 1) := by decide +kernel
theorem dX8_drop_9 : decode cX8_drop 9 = .ok (.getfield 55, 3) := by decide +kernel
theorem dX8_drop_12 : decode cX8_drop 12 = .ok (.iload_n 1, 1) := by decide +kernel
theorem dX8_drop_13 : decode cX8_drop 13 = .ok (.iaload, 1) := by decide +kernel
theorem dX8_drop_14 : decode cX8_drop 14 = .ok (.iconst (-1), 1) := by decide +kernel
theorem dX8_drop_15 : decode cX8_drop 15 = .ok (.if_icmp .ne 6, 3) := by decide +kernel
theorem dX8_drop_18 : decode cX8_drop 18 = .ok (.bipush (-2), 2) := by decide +kernel
theorem dX8_drop_20 : decode cX8_drop 20 = .ok (.ireturn, 1) := by decide +kernel
theorem dX8_drop_21 : decode cX8_drop 21 = .ok (.aload_n 0, 1) := by decide +kernel
theorem dX8_drop_22 : decode cX8_drop 22 = .ok (.getfield 49, 3) := by decide +kernel
theorem dX8_drop_25 : decode cX8_drop 25 = .ok (.iload_n 1, 1) := by decide +kernel
theorem dX8_drop_26 : decode cX8_drop 26 = .ok (.iaload, 1) := by decide +kernel
theorem dX8_drop_27 : decode cX8_drop 27 = .ok (.istore_n 2, 1) := by decide +kernel
theorem dX8_drop_28 : decode cX8_drop 28 = .ok (.iconst 0, 1) := by decide +kernel
theorem dX8_drop_29 : decode cX8_drop 29 = .ok (.istore_n 3, 1) := by decide +kernel
theorem dX8_drop_30 : decode cX8_drop 30 = .ok (.iload_n 3, 1) := by decide +kernel
theorem dX8_drop_31 : decode cX8_drop 31 = .ok (.aload_n 0, 1) := by decide +kernel
theorem dX8_drop_32 : decode cX8_drop 32 = .ok (.getfield 193, 3) := by decide +kernel
theorem dX8_drop_35 : decode cX8_drop 35 = .ok (.if_icmp .ge 48, 3) := by decide +kernel
theorem dX8_drop_38 : decode cX8_drop 38 = .ok (.aload_n 0, 1) := by decide +kernel
theorem dX8_drop_39 : decode cX8_drop 39 = .ok (.getfield 55, 3) := by decide +kernel
theorem dX8_drop_42 : decode cX8_drop 42 = .ok (.iload_n 3, 1) := by decide +kernel
theorem dX8_drop_43 : decode cX8_drop 43 = .ok (.dup2, 1) := by decide +kernel
theorem dX8_drop_44 : decode cX8_drop 44 = .ok (.iaload, 1) := by decide +kernel
theorem dX8_drop_45 : decode cX8_drop 45 = .ok (.aload_n 0, 1) := by decide +kernel
theorem dX8_drop_46 : decode cX8_drop 46 = .ok (.getfield 49, 3) := by decide +kernel
theorem dX8_drop_49 : decode cX8_drop 49 = .ok (.iload_n 3, 1) := by decide +kernel
theorem dX8_drop_50 : decode cX8_drop 50 = .ok (.iaload, 1) := by decide +kernel
theorem dX8_drop_51 : decode cX8_drop 51 = .ok (.iload_n 2, 1) := by decide +kernel
theorem dX8_drop_52 : decode cX8_drop 52 = .ok (.if_icmp .ne 22, 3) := by decide +kernel
theorem dX8_drop_55 : decode cX8_drop 55 = .ok (.aload_n 0, 1) := by decide +kernel
theorem dX8_drop_56 : decode cX8_drop 56 = .ok (.getfield 55, 3) := by decide +kernel
theorem dX8_drop_59 : decode cX8_drop 59 = .ok (.iload_n 3, 1) := by decide +kernel
theorem dX8_drop_60 : decode cX8_drop 60 = .ok (.iaload, 1) := by decide +kernel
theorem dX8_drop_61 : decode cX8_drop 61 = .ok (.aload_n 0, 1) := by decide +kernel
theorem dX8_drop_62 : decode cX8_drop 62 = .ok (.getfield 55, 3) := by decide +kernel
theorem dX8_drop_65 : decode cX8_drop 65 = .ok (.iload_n 1, 1) := by decide +kernel
theorem dX8_drop_66 : decode cX8_drop 66 = .ok (.iaload, 1) := by decide +kernel
theorem dX8_drop_67 : decode cX8_drop 67 = .ok (.if_icmp .le 7, 3) := by decide +kernel
theorem dX8_drop_70 : decode cX8_drop 70 = .ok (.iconst 1, 1) := by decide +kernel
theorem dX8_drop_71 : decode cX8_drop 71 = .ok (.goto 4, 3) := by decide +kernel
theorem dX8_drop_74 : decode cX8_drop 74 = .ok (.iconst 0, 1) := by decide +kernel
theorem dX8_drop_75 : decode cX8_drop 75 = .ok (.isub, 1) := by decide +kernel
theorem dX8_drop_76 : decode cX8_drop 76 = .ok (.iastore, 1) := by decide +kernel
theorem dX8_drop_77 : decode cX8_drop 77 = .ok (.iinc 3 1, 3) := by decide +kernel
theorem dX8_drop_80 : decode cX8_drop 80 = .ok (.goto (-50), 3) := by decide +kernel
theorem dX8_drop_83 : decode cX8_drop 83 = .ok (.aload_n 0, 1) := by decide +kernel
theorem dX8_drop_84 : decode cX8_drop 84 = .ok (.getfield 55, 3) := by decide +kernel
theorem dX8_drop_87 : decode cX8_drop 87 = .ok (.iload_n 1, 1) := by decide +kernel
theorem dX8_drop_88 : decode cX8_drop 88 = .ok (.iconst (-1), 1) := by decide +kernel
theorem dX8_drop_89 : decode cX8_drop 89 = .ok (.iastore, 1) := by decide +kernel
theorem dX8_drop_90 : decode cX8_drop 90 = .ok (.aload_n 0, 1) := by decide +kernel
theorem dX8_drop_91 : decode cX8_drop 91 = .ok (.getfield 58, 3) := by decide +kernel
theorem dX8_drop_94 : decode cX8_drop 94 = .ok (.iload_n 2, 1) := by decide +kernel
theorem dX8_drop_95 : decode cX8_drop 95 = .ok (.dup2, 1) := by decide +kernel
theorem dX8_drop_96 : decode cX8_drop 96 = .ok (.iaload, 1) := by decide +kernel
theorem dX8_drop_97 : decode cX8_drop 97 = .ok (.iconst 1, 1) := by decide +kernel
theorem dX8_drop_98 : decode cX8_drop 98 = .ok (.isub, 1) := by decide +kernel
theorem dX8_drop_99 : decode cX8_drop 99 = .ok (.iastore, 1) := by decide +kernel
theorem dX8_drop_100 : decode cX8_drop 100 = .ok (.aload_n 0, 1) := by decide +kernel
theorem dX8_drop_101 : decode cX8_drop 101 = .ok (.getfield 58, 3) := by decide +kernel
theorem dX8_drop_104 : decode cX8_drop 104 = .ok (.iload_n 2, 1) := by decide +kernel
theorem dX8_drop_105 : decode cX8_drop 105 = .ok (.iaload, 1) := by decide +kernel
theorem dX8_drop_106 : decode cX8_drop 106 = .ok (.ireturn, 1) := by decide +kernel
theorem dX8_reorder_0 : decode cX8_reorder 0 = .ok (.iload_n 1, 1) := by decide +kernel
theorem dX8_reorder_1 : decode cX8_reorder 1 = .ok (.invokestatic 196, 3) := by decide +kernel
theorem dX8_reorder_4 : decode cX8_reorder 4 = .ok (.ifCond .ne 6, 3) := by decide +kernel
theorem dX8_reorder_7 : decode cX8_reorder 7 = .ok (.bipush (-2), 2) := by decide +kernel
theorem dX8_reorder_9 : decode cX8_reorder 9 = .ok (.ireturn, 1) := by decide +kernel
theorem dX8_reorder_10 : decode cX8_reorder 10 = .ok (.aload_n 0, 1) := by decide +kernel
theorem dX8_reorder_11 : decode cX8_reorder 11 = .ok (.getfield 58, 3) := by decide +kernel
theorem dX8_reorder_14 : decode cX8_reorder 14 = .ok (.iload_n 1, 1) := by decide +kernel
theorem dX8_reorder_15 : decode cX8_reorder 15 = .ok (.iaload, 1) := by decide +kernel
theorem dX8_reorder_16 : decode cX8_reorder 16 = .ok (.iconst 1, 1) := by decide +kernel
theorem dX8_reorder_17 : decode cX8_reorder 17 = .ok (.isub, 1) := by decide +kernel
theorem dX8_reorder_18 : decode cX8_reorder 18 = .ok (.istore_n 2, 1) := by decide +kernel
theorem dX8_reorder_19 : decode cX8_reorder 19 = .ok (.iload_n 2, 1) := by decide +kernel
theorem dX8_reorder_20 : decode cX8_reorder 20 = .ok (.ifCond .le 79, 3) := by decide +kernel
theorem dX8_reorder_23 : decode cX8_reorder 23 = .ok (.aload_n 0, 1) := by decide +kernel
theorem dX8_reorder_24 : decode cX8_reorder 24 = .ok (.aload_n 0, 1) := by decide +kernel
theorem dX8_reorder_25 : decode cX8_reorder 25 = .ok (.getfield 61, 3) := by decide +kernel
theorem dX8_reorder_28 : decode cX8_reorder 28 = .ok (.ldc2_w 205, 3) := by decide +kernel
theorem dX8_reorder_31 : decode cX8_reorder 31 = .ok (.lmul, 1) := by decide +kernel
theorem dX8_reorder_32 : decode cX8_reorder 32 = .ok (.ldc2_w 207, 3) := by decide +kernel
theorem dX8_reorder_35 : decode cX8_reorder 35 = .ok (.lrem, 1) := by decide +kernel
theorem dX8_reorder_36 : decode cX8_reorder 36 = .ok (.putfield 61, 3) := by decide +kernel
theorem dX8_reorder_39 : decode cX8_reorder 39 = .ok (.aload_n 0, 1) := by decide +kernel
theorem dX8_reorder_40 : decode cX8_reorder 40 = .ok (.getfield 61, 3) := by decide +kernel
theorem dX8_reorder_43 : decode cX8_reorder 43 = .ok (.iload_n 2, 1) := by decide +kernel
theorem dX8_reorder_44 : decode cX8_reorder 44 = .ok (.iconst 1, 1) := by decide +kernel
theorem dX8_reorder_45 : decode cX8_reorder 45 = .ok (.iadd, 1) := by decide +kernel
theorem dX8_reorder_46 : decode cX8_reorder 46 = .ok (.i2l, 1) := by decide +kernel
theorem dX8_reorder_47 : decode cX8_reorder 47 = .ok (.lrem, 1) := by decide +kernel
theorem dX8_reorder_48 : decode cX8_reorder 48 = .ok (.l2i, 1) := by decide +kernel
theorem dX8_reorder_49 : decode cX8_reorder 49 = .ok (.istore_n 3, 1) := by decide +kernel
theorem dX8_reorder_50 : decode cX8_reorder 50 = .ok (.aload_n 0, 1) := by decide +kernel
theorem dX8_reorder_51 : decode cX8_reorder 51 = .ok (.iload_n 1, 1) := by decide +kernel
theorem dX8_reorder_52 : decode cX8_reorder 52 = .ok (.iload_n 2, 1) := by decide +kernel
theorem dX8_reorder_53 : decode cX8_reorder 53 = .ok (.invokevirtual 209, 3) := by decide +kernel
theorem dX8_reorder_56 : decode cX8_reorder 56 = .ok (.istore 4, 2) := by decide +kernel
theorem dX8_reorder_58 : decode cX8_reorder 58 = .ok (.aload_n 0, 1) := by decide +kernel
theorem dX8_reorder_59 : decode cX8_reorder 59 = .ok (.iload_n 1, 1) := by decide +kernel
theorem dX8_reorder_60 : decode cX8_reorder 60 = .ok (.iload_n 3, 1) := by decide +kernel
theorem dX8_reorder_61 : decode cX8_reorder 61 = .ok (.invokevirtual 209, 3) := by decide +kernel
theorem dX8_reorder_64 : decode cX8_reorder 64 = .ok (.istore 5, 2) := by decide +kernel
theorem dX8_reorder_66 : decode cX8_reorder 66 = .ok (.aload_n 0, 1) := by decide +kernel
theorem dX8_reorder_67 : decode cX8_reorder 67 = .ok (.getfield 55, 3) := by decide +kernel
theorem dX8_reorder_70 : decode cX8_reorder 70 = .ok (.iload 4, 2) := by decide +kernel
theorem dX8_reorder_72 : decode cX8_reorder 72 = .ok (.iload_n 3, 1) := by decide +kernel
theorem dX8_reorder_73 : decode cX8_reorder 73 = .ok (.iastore, 1) := by decide +kernel
theorem dX8_reorder_74 : decode cX8_reorder 74 = .ok (.aload_n 0, 1) := by decide +kernel
theorem dX8_reorder_75 : decode cX8_reorder 75 = .ok (.getfield 55, 3) := by decide +kernel
theorem dX8_reorder_78 : decode cX8_reorder 78 = .ok (.iload 5, 2) := by decide +kernel
theorem dX8_reorder_80 : decode cX8_reorder 80 = .ok (.iload 4, 2) := by decide +kernel
theorem dX8_reorder_82 : decode cX8_reorder 82 = .ok (.iload 5, 2) := by decide +kernel
theorem dX8_reorder_84 : decode cX8_reorder 84 = .ok (.if_icmp .ne 7, 3) := by decide +kernel
theorem dX8_reorder_87 : decode cX8_reorder 87 = .ok (.iload_n 3, 1) := by decide +kernel
theorem dX8_reorder_88 : decode cX8_reorder 88 = .ok (.goto 4, 3) := by decide +kernel
theorem dX8_reorder_91 : decode cX8_reorder 91 = .ok (.iload_n 2, 1) := by decide +kernel
theorem dX8_reorder_92 : decode cX8_reorder 92 = .ok (.iastore, 1) := by decide +kernel
theorem dX8_reorder_93 : decode cX8_reorder 93 = .ok (.iinc 2 (-1), 3) := by decide +kernel
theorem dX8_reorder_96 : decode cX8_reorder 96 = .ok (.goto (-77), 3) := by decide +kernel
theorem dX8_reorder_99 : decode cX8_reorder 99 = .ok (.aload_n 0, 1) := by decide +kernel
theorem dX8_reorder_100 : decode cX8_reorder 100 = .ok (.getfield 58, 3) := by decide +kernel
theorem dX8_reorder_103 : decode cX8_reorder 103 = .ok (.iload_n 1, 1) := by decide +kernel
theorem dX8_reorder_104 : decode cX8_reorder 104 = .ok (.iaload, 1) := by decide +kernel
theorem dX8_reorder_105 : decode cX8_reorder 105 = .ok (.ireturn, 1) := by decide +kernel
theorem dX8_seed_0 : decode cX8_seed 0 = .ok (.iload_n 1, 1) := by decide +kernel
theorem dX8_seed_1 : decode cX8_seed 1 = .ok (.iconst 1, 1) := by decide +kernel
theorem dX8_seed_2 : decode cX8_seed 2 = .ok (.if_icmp .lt 9, 3) := by decide +kernel
theorem dX8_seed_5 : decode cX8_seed 5 = .ok (.iload_n 1, 1) := by decide +kernel
theorem dX8_seed_6 : decode cX8_seed 6 = .ok (.ldc 212, 2) := by decide +kernel
theorem dX8_seed_8 : decode cX8_seed 8 = .ok (.if_icmp .ne 6, 3) := by decide +kernel
theorem dX8_seed_11 : decode cX8_seed 11 = .ok (.bipush (-2), 2) := by decide +kernel
theorem dX8_seed_13 : decode cX8_seed 13 = .ok (.ireturn, 1) := by decide +kernel
theorem dX8_seed_14 : decode cX8_seed 14 = .ok (.aload_n 0, 1) := by decide +kernel
theorem dX8_seed_15 : decode cX8_seed 15 = .ok (.getfield 61, 3) := by decide +kernel
theorem dX8_seed_18 : decode cX8_seed 18 = .ok (.l2i, 1) := by decide +kernel
theorem dX8_seed_19 : decode cX8_seed 19 = .ok (.istore_n 2, 1) := by decide +kernel
theorem dX8_seed_20 : decode cX8_seed 20 = .ok (.aload_n 0, 1) := by decide +kernel
theorem dX8_seed_21 : decode cX8_seed 21 = .ok (.iload_n 1, 1) := by decide +kernel
theorem dX8_seed_22 : decode cX8_seed 22 = .ok (.i2l, 1) := by decide +kernel
theorem dX8_seed_23 : decode cX8_seed 23 = .ok (.putfield 61, 3) := by decide +kernel
theorem dX8_seed_26 : decode cX8_seed 26 = .ok (.iload_n 2, 1) := by decide +kernel
theorem dX8_seed_27 : decode cX8_seed 27 = .ok (.ireturn, 1) := by decide +kernel
theorem dX8_told_0 : decode cX8_told 0 = .ok (.aload_n 0, 1) := by decide +kernel
theorem dX8_told_1 : decode cX8_told 1 = .ok (.iload_n 1, 1) := by decide +kernel
theorem dX8_told_2 : decode cX8_told 2 = .ok (.invokevirtual 202, 3) := by decide +kernel
theorem dX8_told_5 : decode cX8_told 5 = .ok (.ifCond .ne 6, 3) := by decide +kernel
theorem dX8_told_8 : decode cX8_told 8 = .ok (.bipush (-2), 2) := by decide +kernel
theorem dX8_told_10 : decode cX8_told 10 = .ok (.ireturn, 1) := by decide +kernel
theorem dX8_told_11 : decode cX8_told 11 = .ok (.iload_n 2, 1) := by decide +kernel
theorem dX8_told_12 : decode cX8_told 12 = .ok (.ifCond .ne 12, 3) := by decide +kernel
theorem dX8_told_15 : decode cX8_told 15 = .ok (.aload_n 0, 1) := by decide +kernel
theorem dX8_told_16 : decode cX8_told 16 = .ok (.getfield 49, 3) := by decide +kernel
theorem dX8_told_19 : decode cX8_told 19 = .ok (.iload_n 1, 1) := by decide +kernel
theorem dX8_told_20 : decode cX8_told 20 = .ok (.iaload, 1) := by decide +kernel
theorem dX8_told_21 : decode cX8_told 21 = .ok (.goto 33, 3) := by decide +kernel
theorem dX8_told_24 : decode cX8_told 24 = .ok (.iload_n 2, 1) := by decide +kernel
theorem dX8_told_25 : decode cX8_told 25 = .ok (.iconst 1, 1) := by decide +kernel
theorem dX8_told_26 : decode cX8_told 26 = .ok (.if_icmp .ne 12, 3) := by decide +kernel
theorem dX8_told_29 : decode cX8_told 29 = .ok (.aload_n 0, 1) := by decide +kernel
theorem dX8_told_30 : decode cX8_told 30 = .ok (.getfield 52, 3) := by decide +kernel
theorem dX8_told_33 : decode cX8_told 33 = .ok (.iload_n 1, 1) := by decide +kernel
theorem dX8_told_34 : decode cX8_told 34 = .ok (.iaload, 1) := by decide +kernel
theorem dX8_told_35 : decode cX8_told 35 = .ok (.goto 19, 3) := by decide +kernel
theorem dX8_told_38 : decode cX8_told 38 = .ok (.iload_n 2, 1) := by decide +kernel
theorem dX8_told_39 : decode cX8_told 39 = .ok (.iconst 2, 1) := by decide +kernel
theorem dX8_told_40 : decode cX8_told 40 = .ok (.if_icmp .ne 12, 3) := by decide +kernel
theorem dX8_told_43 : decode cX8_told 43 = .ok (.aload_n 0, 1) := by decide +kernel
theorem dX8_told_44 : decode cX8_told 44 = .ok (.getfield 55, 3) := by decide +kernel
theorem dX8_told_47 : decode cX8_told 47 = .ok (.iload_n 1, 1) := by decide +kernel
theorem dX8_told_48 : decode cX8_told 48 = .ok (.iaload, 1) := by decide +kernel
theorem dX8_told_49 : decode cX8_told 49 = .ok (.goto 5, 3) := by decide +kernel
theorem dX8_told_52 : decode cX8_told 52 = .ok (.bipush (-2), 2) := by decide +kernel
theorem dX8_told_54 : decode cX8_told 54 = .ok (.ireturn, 1) := by decide +kernel
theorem dX8_placed_0 : decode cX8_placed 0 = .ok (.iload_n 1, 1) := by decide +kernel
theorem dX8_placed_1 : decode cX8_placed 1 = .ok (.invokestatic 196, 3) := by decide +kernel
theorem dX8_placed_4 : decode cX8_placed 4 = .ok (.ifCond .eq 7, 3) := by decide +kernel
theorem dX8_placed_7 : decode cX8_placed 7 = .ok (.iload_n 2, 1) := by decide +kernel
theorem dX8_placed_8 : decode cX8_placed 8 = .ok (.ifCond .ge 6, 3) := by decide +kernel
theorem dX8_placed_11 : decode cX8_placed 11 = .ok (.bipush (-2), 2) := by decide +kernel
theorem dX8_placed_13 : decode cX8_placed 13 = .ok (.ireturn, 1) := by decide +kernel
theorem dX8_placed_14 : decode cX8_placed 14 = .ok (.aload_n 0, 1) := by decide +kernel
theorem dX8_placed_15 : decode cX8_placed 15 = .ok (.iload_n 1, 1) := by decide +kernel
theorem dX8_placed_16 : decode cX8_placed 16 = .ok (.iload_n 2, 1) := by decide +kernel
theorem dX8_placed_17 : decode cX8_placed 17 = .ok (.invokevirtual 209, 3) := by decide +kernel
theorem dX8_placed_20 : decode cX8_placed 20 = .ok (.ireturn, 1) := by decide +kernel
theorem dX8_keyOf_0 : decode cX8_keyOf 0 = .ok (.iconst 0, 1) := by decide +kernel
theorem dX8_keyOf_1 : decode cX8_keyOf 1 = .ok (.istore_n 2, 1) := by decide +kernel
theorem dX8_keyOf_2 : decode cX8_keyOf 2 = .ok (.iload_n 2, 1) := by decide +kernel
theorem dX8_keyOf_3 : decode cX8_keyOf 3 = .ok (.aload_n 0, 1) := by decide +kernel
theorem dX8_keyOf_4 : decode cX8_keyOf 4 = .ok (.getfield 213, 3) := by decide +kernel
theorem dX8_keyOf_7 : decode cX8_keyOf 7 = .ok (.if_icmp .ge 39, 3) := by decide +kernel
theorem dX8_keyOf_10 : decode cX8_keyOf 10 = .ok (.aload_n 0, 1) := by decide +kernel
theorem dX8_keyOf_11 : decode cX8_keyOf 11 = .ok (.getfield 65, 3) := by decide +kernel
theorem dX8_keyOf_14 : decode cX8_keyOf 14 = .ok (.iload_n 2, 1) := by decide +kernel
theorem dX8_keyOf_15 : decode cX8_keyOf 15 = .ok (.iaload, 1) := by decide +kernel
theorem dX8_keyOf_16 : decode cX8_keyOf 16 = .ok (.aload_n 0, 1) := by decide +kernel
theorem dX8_keyOf_17 : decode cX8_keyOf 17 = .ok (.getfield 49, 3) := by decide +kernel
theorem dX8_keyOf_20 : decode cX8_keyOf 20 = .ok (.iload_n 1, 1) := by decide +kernel
theorem dX8_keyOf_21 : decode cX8_keyOf 21 = .ok (.iaload, 1) := by decide +kernel
theorem dX8_keyOf_22 : decode cX8_keyOf 22 = .ok (.if_icmp .ne 18, 3) := by decide +kernel
theorem dX8_keyOf_25 : decode cX8_keyOf 25 = .ok (.aload_n 0, 1) := by decide +kernel
theorem dX8_keyOf_26 : decode cX8_keyOf 26 = .ok (.getfield 68, 3) := by decide +kernel
theorem dX8_keyOf_29 : decode cX8_keyOf 29 = .ok (.iload_n 2, 1) := by decide +kernel
theorem dX8_keyOf_30 : decode cX8_keyOf 30 = .ok (.iaload, 1) := by decide +kernel
theorem dX8_keyOf_31 : decode cX8_keyOf 31 = .ok (.aload_n 0, 1) := by decide +kernel
theorem dX8_keyOf_32 : decode cX8_keyOf 32 = .ok (.getfield 52, 3) := by decide +kernel
theorem dX8_keyOf_35 : decode cX8_keyOf 35 = .ok (.iload_n 1, 1) := by decide +kernel
theorem dX8_keyOf_36 : decode cX8_keyOf 36 = .ok (.iaload, 1) := by decide +kernel
theorem dX8_keyOf_37 : decode cX8_keyOf 37 = .ok (.if_icmp .eq 9, 3) := by decide +kernel
theorem dX8_keyOf_40 : decode cX8_keyOf 40 = .ok (.iinc 2 1, 3) := by decide +kernel
theorem dX8_keyOf_43 : decode cX8_keyOf 43 = .ok (.goto (-41), 3) := by decide +kernel
theorem dX8_keyOf_46 : decode cX8_keyOf 46 = .ok (.iload_n 2, 1) := by decide +kernel
theorem dX8_keyOf_47 : decode cX8_keyOf 47 = .ok (.ireturn, 1) := by decide +kernel
theorem dX8_put_0 : decode cX8_put 0 = .ok (.aload_n 0, 1) := by decide +kernel
theorem dX8_put_1 : decode cX8_put 1 = .ok (.iload_n 1, 1) := by decide +kernel
theorem dX8_put_2 : decode cX8_put 2 = .ok (.invokevirtual 202, 3) := by decide +kernel
theorem dX8_put_5 : decode cX8_put 5 = .ok (.ifCond .ne 6, 3) := by decide +kernel
theorem dX8_put_8 : decode cX8_put 8 = .ok (.bipush (-2), 2) := by decide +kernel
theorem dX8_put_10 : decode cX8_put 10 = .ok (.ireturn, 1) := by decide +kernel
theorem dX8_put_11 : decode cX8_put 11 = .ok (.aload_n 0, 1) := by decide +kernel
theorem dX8_put_12 : decode cX8_put 12 = .ok (.iload_n 1, 1) := by decide +kernel
theorem dX8_put_13 : decode cX8_put 13 = .ok (.invokevirtual 216, 3) := by decide +kernel
theorem dX8_put_16 : decode cX8_put 16 = .ok (.istore_n 3, 1) := by decide +kernel
theorem dX8_put_17 : decode cX8_put 17 = .ok (.iload_n 3, 1) := by decide +kernel
theorem dX8_put_18 : decode cX8_put 18 = .ok (.bipush 40, 2) := by decide +kernel
theorem dX8_put_20 : decode cX8_put 20 = .ok (.if_icmp .ne 6, 3) := by decide +kernel
theorem dX8_put_23 : decode cX8_put 23 = .ok (.bipush (-3), 2) := by decide +kernel
theorem dX8_put_25 : decode cX8_put 25 = .ok (.ireturn, 1) := by decide +kernel
theorem dX8_put_26 : decode cX8_put 26 = .ok (.iload_n 3, 1) := by decide +kernel
theorem dX8_put_27 : decode cX8_put 27 = .ok (.aload_n 0, 1) := by decide +kernel
theorem dX8_put_28 : decode cX8_put 28 = .ok (.getfield 213, 3) := by decide +kernel
theorem dX8_put_31 : decode cX8_put 31 = .ok (.if_icmp .ge 7, 3) := by decide +kernel
theorem dX8_put_34 : decode cX8_put 34 = .ok (.iconst 1, 1) := by decide +kernel
theorem dX8_put_35 : decode cX8_put 35 = .ok (.goto 4, 3) := by decide +kernel
theorem dX8_put_38 : decode cX8_put 38 = .ok (.iconst 0, 1) := by decide +kernel
theorem dX8_put_39 : decode cX8_put 39 = .ok (.istore 4, 2) := by decide +kernel
theorem dX8_put_41 : decode cX8_put 41 = .ok (.aload_n 0, 1) := by decide +kernel
theorem dX8_put_42 : decode cX8_put 42 = .ok (.getfield 65, 3) := by decide +kernel
theorem dX8_put_45 : decode cX8_put 45 = .ok (.iload_n 3, 1) := by decide +kernel
theorem dX8_put_46 : decode cX8_put 46 = .ok (.aload_n 0, 1) := by decide +kernel
theorem dX8_put_47 : decode cX8_put 47 = .ok (.getfield 49, 3) := by decide +kernel
theorem dX8_put_50 : decode cX8_put 50 = .ok (.iload_n 1, 1) := by decide +kernel
theorem dX8_put_51 : decode cX8_put 51 = .ok (.iaload, 1) := by decide +kernel
theorem dX8_put_52 : decode cX8_put 52 = .ok (.iastore, 1) := by decide +kernel
theorem dX8_put_53 : decode cX8_put 53 = .ok (.aload_n 0, 1) := by decide +kernel
theorem dX8_put_54 : decode cX8_put 54 = .ok (.getfield 68, 3) := by decide +kernel
theorem dX8_put_57 : decode cX8_put 57 = .ok (.iload_n 3, 1) := by decide +kernel
theorem dX8_put_58 : decode cX8_put 58 = .ok (.aload_n 0, 1) := by decide +kernel
theorem dX8_put_59 : decode cX8_put 59 = .ok (.getfield 52, 3) := by decide +kernel
theorem dX8_put_62 : decode cX8_put 62 = .ok (.iload_n 1, 1) := by decide +kernel
theorem dX8_put_63 : decode cX8_put 63 = .ok (.iaload, 1) := by decide +kernel
theorem dX8_put_64 : decode cX8_put 64 = .ok (.iastore, 1) := by decide +kernel
theorem dX8_put_65 : decode cX8_put 65 = .ok (.aload_n 0, 1) := by decide +kernel
theorem dX8_put_66 : decode cX8_put 66 = .ok (.getfield 71, 3) := by decide +kernel
theorem dX8_put_69 : decode cX8_put 69 = .ok (.iload_n 3, 1) := by decide +kernel
theorem dX8_put_70 : decode cX8_put 70 = .ok (.iload_n 2, 1) := by decide +kernel
theorem dX8_put_71 : decode cX8_put 71 = .ok (.iastore, 1) := by decide +kernel
theorem dX8_put_72 : decode cX8_put 72 = .ok (.aload_n 0, 1) := by decide +kernel
theorem dX8_put_73 : decode cX8_put 73 = .ok (.dup, 1) := by decide +kernel
theorem dX8_put_74 : decode cX8_put 74 = .ok (.getfield 213, 3) := by decide +kernel
theorem dX8_put_77 : decode cX8_put 77 = .ok (.iload 4, 2) := by decide +kernel
theorem dX8_put_79 : decode cX8_put 79 = .ok (.ifCond .eq 7, 3) := by decide +kernel
theorem dX8_put_82 : decode cX8_put 82 = .ok (.iconst 0, 1) := by decide +kernel
theorem dX8_put_83 : decode cX8_put 83 = .ok (.goto 4, 3) := by decide +kernel
theorem dX8_put_86 : decode cX8_put 86 = .ok (.iconst 1, 1) := by decide +kernel
theorem dX8_put_87 : decode cX8_put 87 = .ok (.iadd, 1) := by decide +kernel
theorem dX8_put_88 : decode cX8_put 88 = .ok (.putfield 213, 3) := by decide +kernel
theorem dX8_put_91 : decode cX8_put 91 = .ok (.iload 4, 2) := by decide +kernel
theorem dX8_put_93 : decode cX8_put 93 = .ok (.ifCond .eq 7, 3) := by decide +kernel
theorem dX8_put_96 : decode cX8_put 96 = .ok (.iconst 1, 1) := by decide +kernel
theorem dX8_put_97 : decode cX8_put 97 = .ok (.goto 4, 3) := by decide +kernel
theorem dX8_put_100 : decode cX8_put 100 = .ok (.iconst 0, 1) := by decide +kernel
theorem dX8_put_101 : decode cX8_put 101 = .ok (.ireturn, 1) := by decide +kernel
theorem dX8_get_0 : decode cX8_get 0 = .ok (.aload_n 0, 1) := by decide +kernel
theorem dX8_get_1 : decode cX8_get 1 = .ok (.iload_n 1, 1) := by decide +kernel
theorem dX8_get_2 : decode cX8_get 2 = .ok (.invokevirtual 202, 3) := by decide +kernel
theorem dX8_get_5 : decode cX8_get 5 = .ok (.ifCond .eq 28, 3) := by decide +kernel
theorem dX8_get_8 : decode cX8_get 8 = .ok (.aload_n 0, 1) := by decide +kernel
theorem dX8_get_9 : decode cX8_get 9 = .ok (.iload_n 1, 1) := by decide +kernel
theorem dX8_get_10 : decode cX8_get 10 = .ok (.invokevirtual 216, 3) := by decide +kernel
theorem dX8_get_13 : decode cX8_get 13 = .ok (.aload_n 0, 1) := by decide +kernel
theorem dX8_get_14 : decode cX8_get 14 = .ok (.getfield 213, 3) := by decide +kernel
theorem dX8_get_17 : decode cX8_get 17 = .ok (.if_icmp .ge 16, 3) := by decide +kernel
theorem dX8_get_20 : decode cX8_get 20 = .ok (.aload_n 0, 1) := by decide +kernel
theorem dX8_get_21 : decode cX8_get 21 = .ok (.getfield 71, 3) := by decide +kernel
theorem dX8_get_24 : decode cX8_get 24 = .ok (.aload_n 0, 1) := by decide +kernel
theorem dX8_get_25 : decode cX8_get 25 = .ok (.iload_n 1, 1) := by decide +kernel
theorem dX8_get_26 : decode cX8_get 26 = .ok (.invokevirtual 216, 3) := by decide +kernel
theorem dX8_get_29 : decode cX8_get 29 = .ok (.iaload, 1) := by decide +kernel
theorem dX8_get_30 : decode cX8_get 30 = .ok (.goto 4, 3) := by decide +kernel
theorem dX8_get_33 : decode cX8_get 33 = .ok (.iconst 0, 1) := by decide +kernel
theorem dX8_get_34 : decode cX8_get 34 = .ok (.ireturn, 1) := by decide +kernel
theorem dX8_count_0 : decode cX8_count 0 = .ok (.iload_n 1, 1) := by decide +kernel
theorem dX8_count_1 : decode cX8_count 1 = .ok (.bipush 11, 2) := by decide +kernel
theorem dX8_count_3 : decode cX8_count 3 = .ok (.if_icmp .lt 19, 3) := by decide +kernel
theorem dX8_count_6 : decode cX8_count 6 = .ok (.iload_n 1, 1) := by decide +kernel
theorem dX8_count_7 : decode cX8_count 7 = .ok (.bipush 17, 2) := by decide +kernel
theorem dX8_count_9 : decode cX8_count 9 = .ok (.if_icmp .gt 13, 3) := by decide +kernel
theorem dX8_count_12 : decode cX8_count 12 = .ok (.aload_n 0, 1) := by decide +kernel
theorem dX8_count_13 : decode cX8_count 13 = .ok (.getfield 13, 3) := by decide +kernel
theorem dX8_count_16 : decode cX8_count 16 = .ok (.iload_n 1, 1) := by decide +kernel
theorem dX8_count_17 : decode cX8_count 17 = .ok (.bipush 10, 2) := by decide +kernel
theorem dX8_count_19 : decode cX8_count 19 = .ok (.isub, 1) := by decide +kernel
theorem dX8_count_20 : decode cX8_count 20 = .ok (.iaload, 1) := by decide +kernel
theorem dX8_count_21 : decode cX8_count 21 = .ok (.ireturn, 1) := by decide +kernel
theorem dX8_count_22 : decode cX8_count 22 = .ok (.iload_n 1, 1) := by decide +kernel
theorem dX8_count_23 : decode cX8_count 23 = .ok (.tableswitch 81 0 4 #[33, 38, 43, 48, 76], 33) := by decide +kernel
theorem dX8_count_56 : decode cX8_count 56 = .ok (.aload_n 0, 1) := by decide +kernel
theorem dX8_count_57 : decode cX8_count 57 = .ok (.getfield 83, 3) := by decide +kernel
theorem dX8_count_60 : decode cX8_count 60 = .ok (.ireturn, 1) := by decide +kernel
theorem dX8_count_61 : decode cX8_count 61 = .ok (.aload_n 0, 1) := by decide +kernel
theorem dX8_count_62 : decode cX8_count 62 = .ok (.getfield 80, 3) := by decide +kernel
theorem dX8_count_65 : decode cX8_count 65 = .ok (.ireturn, 1) := by decide +kernel
theorem dX8_count_66 : decode cX8_count 66 = .ok (.aload_n 0, 1) := by decide +kernel
theorem dX8_count_67 : decode cX8_count 67 = .ok (.getfield 187, 3) := by decide +kernel
theorem dX8_count_70 : decode cX8_count 70 = .ok (.ireturn, 1) := by decide +kernel
theorem dX8_count_71 : decode cX8_count 71 = .ok (.aload_n 0, 1) := by decide +kernel
theorem dX8_count_72 : decode cX8_count 72 = .ok (.getfield 58, 3) := by decide +kernel
theorem dX8_count_75 : decode cX8_count 75 = .ok (.iconst 0, 1) := by decide +kernel
theorem dX8_count_76 : decode cX8_count 76 = .ok (.iaload, 1) := by decide +kernel
theorem dX8_count_77 : decode cX8_count 77 = .ok (.aload_n 0, 1) := by decide +kernel
theorem dX8_count_78 : decode cX8_count 78 = .ok (.getfield 58, 3) := by decide +kernel
theorem dX8_count_81 : decode cX8_count 81 = .ok (.iconst 1, 1) := by decide +kernel
theorem dX8_count_82 : decode cX8_count 82 = .ok (.iaload, 1) := by decide +kernel
theorem dX8_count_83 : decode cX8_count 83 = .ok (.iadd, 1) := by decide +kernel
theorem dX8_count_84 : decode cX8_count 84 = .ok (.aload_n 0, 1) := by decide +kernel
theorem dX8_count_85 : decode cX8_count 85 = .ok (.getfield 58, 3) := by decide +kernel
theorem dX8_count_88 : decode cX8_count 88 = .ok (.iconst 2, 1) := by decide +kernel
theorem dX8_count_89 : decode cX8_count 89 = .ok (.iaload, 1) := by decide +kernel
theorem dX8_count_90 : decode cX8_count 90 = .ok (.iadd, 1) := by decide +kernel
theorem dX8_count_91 : decode cX8_count 91 = .ok (.aload_n 0, 1) := by decide +kernel
theorem dX8_count_92 : decode cX8_count 92 = .ok (.getfield 58, 3) := by decide +kernel
theorem dX8_count_95 : decode cX8_count 95 = .ok (.iconst 3, 1) := by decide +kernel
theorem dX8_count_96 : decode cX8_count 96 = .ok (.iaload, 1) := by decide +kernel
theorem dX8_count_97 : decode cX8_count 97 = .ok (.iadd, 1) := by decide +kernel
theorem dX8_count_98 : decode cX8_count 98 = .ok (.ireturn, 1) := by decide +kernel
theorem dX8_count_99 : decode cX8_count 99 = .ok (.aload_n 0, 1) := by decide +kernel
theorem dX8_count_100 : decode cX8_count 100 = .ok (.getfield 213, 3) := by decide +kernel
theorem dX8_count_103 : decode cX8_count 103 = .ok (.ireturn, 1) := by decide +kernel
theorem dX8_count_104 : decode cX8_count 104 = .ok (.bipush (-2), 2) := by decide +kernel
theorem dX8_count_106 : decode cX8_count 106 = .ok (.ireturn, 1) := by decide +kernel
theorem dJ6_compare_7cf53_0 : decode cJ6_compare_7cf53 0 = .ok (.iload_n 0, 1) := by decide +kernel
theorem dJ6_compare_7cf53_1 : decode cJ6_compare_7cf53 1 = .ok (.iload_n 1, 1) := by decide +kernel
theorem dJ6_compare_7cf53_2 : decode cJ6_compare_7cf53 2 = .ok (.if_icmp .ge 7, 3) := by decide +kernel
theorem dJ6_compare_7cf53_5 : decode cJ6_compare_7cf53 5 = .ok (.iconst (-1), 1) := by decide +kernel
theorem dJ6_compare_7cf53_6 : decode cJ6_compare_7cf53 6 = .ok (.goto 13, 3) := by decide +kernel
theorem dJ6_compare_7cf53_9 : decode cJ6_compare_7cf53 9 = .ok (.iload_n 0, 1) := by decide +kernel
theorem dJ6_compare_7cf53_10 : decode cJ6_compare_7cf53 10 = .ok (.iload_n 1, 1) := by decide +kernel
theorem dJ6_compare_7cf53_11 : decode cJ6_compare_7cf53 11 = .ok (.if_icmp .ne 7, 3) := by decide +kernel
theorem dJ6_compare_7cf53_14 : decode cJ6_compare_7cf53 14 = .ok (.iconst 0, 1) := by decide +kernel
theorem dJ6_compare_7cf53_15 : decode cJ6_compare_7cf53 15 = .ok (.goto 4, 3) := by decide +kernel
theorem dJ6_compare_7cf53_18 : decode cJ6_compare_7cf53 18 = .ok (.iconst 1, 1) := by decide +kernel
theorem dJ6_compare_7cf53_19 : decode cJ6_compare_7cf53 19 = .ok (.ireturn, 1) := by decide +kernel
theorem dJ13_compare_74951_0 : decode cJ13_compare_74951 0 = .ok (.lload_n 0, 1) := by decide +kernel
theorem dJ13_compare_74951_1 : decode cJ13_compare_74951 1 = .ok (.lload_n 2, 1) := by decide +kernel
theorem dJ13_compare_74951_2 : decode cJ13_compare_74951 2 = .ok (.lcmp, 1) := by decide +kernel
theorem dJ13_compare_74951_3 : decode cJ13_compare_74951 3 = .ok (.ifCond .ge 7, 3) := by decide +kernel
theorem dJ13_compare_74951_6 : decode cJ13_compare_74951 6 = .ok (.iconst (-1), 1) := by decide +kernel
theorem dJ13_compare_74951_7 : decode cJ13_compare_74951 7 = .ok (.goto 14, 3) := by decide +kernel
theorem dJ13_compare_74951_10 : decode cJ13_compare_74951 10 = .ok (.lload_n 0, 1) := by decide +kernel
theorem dJ13_compare_74951_11 : decode cJ13_compare_74951 11 = .ok (.lload_n 2, 1) := by decide +kernel
theorem dJ13_compare_74951_12 : decode cJ13_compare_74951 12 = .ok (.lcmp, 1) := by decide +kernel
theorem dJ13_compare_74951_13 : decode cJ13_compare_74951 13 = .ok (.ifCond .ne 7, 3) := by decide +kernel
theorem dJ13_compare_74951_16 : decode cJ13_compare_74951 16 = .ok (.iconst 0, 1) := by decide +kernel
theorem dJ13_compare_74951_17 : decode cJ13_compare_74951 17 = .ok (.goto 4, 3) := by decide +kernel
theorem dJ13_compare_74951_20 : decode cJ13_compare_74951 20 = .ok (.iconst 1, 1) := by decide +kernel
theorem dJ13_compare_74951_21 : decode cJ13_compare_74951 21 = .ok (.ireturn, 1) := by decide +kernel
theorem dJ9_abs_067f4_0 : decode cJ9_abs_067f4 0 = .ok (.lload_n 0, 1) := by decide +kernel
theorem dJ9_abs_067f4_1 : decode cJ9_abs_067f4 1 = .ok (.lconst 0, 1) := by decide +kernel
theorem dJ9_abs_067f4_2 : decode cJ9_abs_067f4 2 = .ok (.lcmp, 1) := by decide +kernel
theorem dJ9_abs_067f4_3 : decode cJ9_abs_067f4 3 = .ok (.ifCond .ge 8, 3) := by decide +kernel
theorem dJ9_abs_067f4_6 : decode cJ9_abs_067f4 6 = .ok (.lload_n 0, 1) := by decide +kernel
theorem dJ9_abs_067f4_7 : decode cJ9_abs_067f4 7 = .ok (.lneg, 1) := by decide +kernel
theorem dJ9_abs_067f4_8 : decode cJ9_abs_067f4 8 = .ok (.goto 4, 3) := by decide +kernel
theorem dJ9_abs_067f4_11 : decode cJ9_abs_067f4 11 = .ok (.lload_n 0, 1) := by decide +kernel
theorem dJ9_abs_067f4_12 : decode cJ9_abs_067f4 12 = .ok (.lreturn, 1) := by decide +kernel
theorem dJ9_min_7cf53_0 : decode cJ9_min_7cf53 0 = .ok (.iload_n 0, 1) := by decide +kernel
theorem dJ9_min_7cf53_1 : decode cJ9_min_7cf53 1 = .ok (.iload_n 1, 1) := by decide +kernel
theorem dJ9_min_7cf53_2 : decode cJ9_min_7cf53 2 = .ok (.if_icmp .gt 7, 3) := by decide +kernel
theorem dJ9_min_7cf53_5 : decode cJ9_min_7cf53 5 = .ok (.iload_n 0, 1) := by decide +kernel
theorem dJ9_min_7cf53_6 : decode cJ9_min_7cf53 6 = .ok (.goto 4, 3) := by decide +kernel
theorem dJ9_min_7cf53_9 : decode cJ9_min_7cf53 9 = .ok (.iload_n 1, 1) := by decide +kernel
theorem dJ9_min_7cf53_10 : decode cJ9_min_7cf53 10 = .ok (.ireturn, 1) := by decide +kernel
end
section
/-! addresses apart by what stands there -/
def zk : va_E → Nat
  | .inr o => o.1
  | .inl (_, n, .inl _) => (n + 1) * 1000 + 100
  | .inl (_, n, .inr (.inl _)) => (n + 1) * 1000 + 200
  | .inl (_, n, .inr (.inr _)) => (n + 1) * 1000 + 300
def zo : va_E → Nat
  | .inr _ => 0
  | .inl _ => 1
def zg : va_E → Nat
  | .inr _ => 0
  | .inl (_, _, .inl _) => 1
  | .inl (_, _, .inr (.inl _)) => 2
  | .inl (_, _, .inr (.inr _)) => 3
theorem z_ne {f : zM} {a b : Nat} {e1 e2 : va_E} (h1 : f a = some e1) (h2 : f b = some e2) (h : Nat.beq (zk e1) (zk e2) = false) : a ≠ b := by
  rintro rfl
  rw [h1] at h2
  cases h2
  exact absurd (Nat.beq_refl (zk e1)) (by rw [h]; decide)
theorem z_neO {f : zM} {a b : Nat} {e1 e2 : va_E} (h1 : f a = some e1) (h2 : f b = some e2) (h : Nat.beq (zo e1) (zo e2) = false) : a ≠ b := by
  rintro rfl
  rw [h1] at h2
  cases h2
  exact absurd (Nat.beq_refl (zo e1)) (by rw [h]; decide)
theorem z_neA {f : zM} {a b : Nat} {e1 e2 : va_E} (h1 : f a = some e1) (h2 : f b = some e2) (h : Nat.beq (zg e1) (zg e2) = false) : a ≠ b := by
  rintro rfl
  rw [h1] at h2
  cases h2
  exact absurd (Nat.beq_refl (zg e1)) (by rw [h]; decide)
theorem z_nn {f : zM} {a q : Nat} {e : va_E} (hq : f q = none) (ha : f a = some e) : a ≠ q := by
  rintro rfl
  rw [hq] at ha
  cases ha
/-! the words of every method that is called -/
theorem zyX7_init : zYi yX7_init cX7_init 2 0 RX7 := ⟨mC_yX7_init, mI_yX7_init, mIn_RX7, rfl, rfl, by decide +kernel, by decide +kernel, by decide +kernel⟩
theorem zyX2_init : zYi yX2_init cX2_init 1 0 RX2 := ⟨mC_yX2_init, mI_yX2_init, mIn_RX2, rfl, rfl, by decide +kernel, by decide +kernel, by decide +kernel⟩
theorem zyX5_init : zYi yX5_init cX5_init 1 0 RX5 := ⟨mC_yX5_init, mI_yX5_init, mIn_RX5, rfl, rfl, by decide +kernel, by decide +kernel, by decide +kernel⟩
theorem zyX6_init : zYi yX6_init cX6_init 1 0 RX6 := ⟨mC_yX6_init, mI_yX6_init, mIn_RX6, rfl, rfl, by decide +kernel, by decide +kernel, by decide +kernel⟩
theorem zyX1_init : zYi yX1_init cX1_init 1 0 RX1 := ⟨mC_yX1_init, mI_yX1_init, mIn_RX1, rfl, rfl, by decide +kernel, by decide +kernel, by decide +kernel⟩
theorem zyX7_cause : zY yX7_cause cX7_cause 2 (Option.some Jvm.ClassFile.FieldType.int) 1 RX7 := ⟨mC_yX7_cause, mI_yX7_cause, mV_yX7_cause, mIn_RX7, rfl, by decide +kernel, by decide +kernel, by decide +kernel⟩
theorem zyX7_lay : zY yX7_lay cX7_lay 2 (Option.some Jvm.ClassFile.FieldType.int) 1 RX7 := ⟨mC_yX7_lay, mI_yX7_lay, mV_yX7_lay, mIn_RX7, rfl, by decide +kernel, by decide +kernel, by decide +kernel⟩
theorem zyX7_wipe : zY yX7_wipe cX7_wipe 2 (Option.some Jvm.ClassFile.FieldType.int) 0 RX7 := ⟨mC_yX7_wipe, mI_yX7_wipe, mV_yX7_wipe, mIn_RX7, rfl, by decide +kernel, by decide +kernel, by decide +kernel⟩
theorem zyX7_point : zY yX7_point cX7_point 5 (Option.some Jvm.ClassFile.FieldType.int) 2 RX7 := ⟨mC_yX7_point, mI_yX7_point, mV_yX7_point, mIn_RX7, rfl, by decide +kernel, by decide +kernel, by decide +kernel⟩
theorem zyX2_none : zY yX2_none cX2_none 1 (Option.none : Option Jvm.ClassFile.FieldType) 0 RX2 := ⟨mC_yX2_none, mI_yX2_none, mV_yX2_none, mIn_RX2, rfl, by decide +kernel, by decide +kernel, by decide +kernel⟩
theorem zyX5_isFull : zY yX5_isFull cX5_isFull 1 (Option.some Jvm.ClassFile.FieldType.boolean) 0 RX5 := ⟨mC_yX5_isFull, mI_yX5_isFull, mV_yX5_isFull, mIn_RX5, rfl, by decide +kernel, by decide +kernel, by decide +kernel⟩
theorem zyX7_oneNan : zYs yX7_oneNan cX7_oneNan 3 (Option.some Jvm.ClassFile.FieldType.long) 1 RX7 := ⟨mC_yX7_oneNan, mS_yX7_oneNan, mIn_RX7, rfl, by decide +kernel, by decide +kernel, by decide +kernel⟩
theorem zyX4_init : zYi yX4_init cX4_init 5 3 RX4 := ⟨mC_yX4_init, mI_yX4_init, mIn_RX4, rfl, rfl, by decide +kernel, by decide +kernel, by decide +kernel⟩
theorem zyX5_add : zY yX5_add cX5_add 2 (Option.some Jvm.ClassFile.FieldType.int) 1 RX5 := ⟨mC_yX5_add, mI_yX5_add, mV_yX5_add, mIn_RX5, rfl, by decide +kernel, by decide +kernel, by decide +kernel⟩
theorem zyX5_hashOf : zY yX5_hashOf cX5_hashOf 8 (Option.some Jvm.ClassFile.FieldType.int) 1 RX5 := ⟨mC_yX5_hashOf, mI_yX5_hashOf, mV_yX5_hashOf, mIn_RX5, rfl, by decide +kernel, by decide +kernel, by decide +kernel⟩
theorem zyX5_hashOfNumbered : zY yX5_hashOfNumbered cX5_hashOfNumbered 4 (Option.some Jvm.ClassFile.FieldType.int) 1 RX5 := ⟨mC_yX5_hashOfNumbered, mI_yX5_hashOfNumbered, mV_yX5_hashOfNumbered, mIn_RX5, rfl, by decide +kernel, by decide +kernel, by decide +kernel⟩
theorem zyX5_find : zY yX5_find cX5_find 3 (Option.some (Jvm.ClassFile.FieldType.object "KindRows$Figure")) 1 RX5 := ⟨mC_yX5_find, mI_yX5_find, mV_yX5_find, mIn_RX5, rfl, by decide +kernel, by decide +kernel, by decide +kernel⟩
theorem zyX5_rank : zY yX5_rank cX5_rank 5 (Option.none : Option Jvm.ClassFile.FieldType) 1 RX5 := ⟨mC_yX5_rank, mI_yX5_rank, mV_yX5_rank, mIn_RX5, rfl, by decide +kernel, by decide +kernel, by decide +kernel⟩
theorem zyX5_compare : zY yX5_compare cX5_compare 4 (Option.some Jvm.ClassFile.FieldType.int) 2 RX5 := ⟨mC_yX5_compare, mI_yX5_compare, mV_yX5_compare, mIn_RX5, rfl, by decide +kernel, by decide +kernel, by decide +kernel⟩
theorem zyJ6_compare_7cf53 : zYs yJ6_compare_7cf53 cJ6_compare_7cf53 2 (Option.some Jvm.ClassFile.FieldType.int) 2 RJ6 := ⟨mC_yJ6_compare_7cf53, mS_yJ6_compare_7cf53, mIn_RJ6, rfl, by decide +kernel, by decide +kernel, by decide +kernel⟩
theorem zyX5_compareFrom : zY yX5_compareFrom cX5_compareFrom 7 (Option.some Jvm.ClassFile.FieldType.int) 3 RX5 := ⟨mC_yX5_compareFrom, mI_yX5_compareFrom, mV_yX5_compareFrom, mIn_RX5, rfl, by decide +kernel, by decide +kernel, by decide +kernel⟩
theorem zyX5_sortKey : zY yX5_sortKey cX5_sortKey 5 (Option.some Jvm.ClassFile.FieldType.long) 2 RX5 := ⟨mC_yX5_sortKey, mI_yX5_sortKey, mV_yX5_sortKey, mIn_RX5, rfl, by decide +kernel, by decide +kernel, by decide +kernel⟩
theorem zyJ13_compare_74951 : zYs yJ13_compare_74951 cJ13_compare_74951 4 (Option.some Jvm.ClassFile.FieldType.int) 2 RJ13 := ⟨mC_yJ13_compare_74951, mS_yJ13_compare_74951, mIn_RJ13, rfl, by decide +kernel, by decide +kernel, by decide +kernel⟩
theorem zyX5_compareAtK : zYs yX5_compareAtK cX5_compareAtK 3 (Option.some Jvm.ClassFile.FieldType.int) 2 RX5 := ⟨mC_yX5_compareAtK, mS_yX5_compareAtK, mIn_RX5, rfl, by decide +kernel, by decide +kernel, by decide +kernel⟩
theorem zyX7_span : zY yX7_span cX7_span 3 (Option.some Jvm.ClassFile.FieldType.int) 2 RX7 := ⟨mC_yX7_span, mI_yX7_span, mV_yX7_span, mIn_RX7, rfl, by decide +kernel, by decide +kernel, by decide +kernel⟩
theorem zyX2_own : zY yX2_own cX2_own 3 (Option.some Jvm.ClassFile.FieldType.int) 2 RX2 := ⟨mC_yX2_own, mI_yX2_own, mV_yX2_own, mIn_RX2, rfl, by decide +kernel, by decide +kernel, by decide +kernel⟩
theorem zyX2_inPart : zY yX2_inPart cX2_inPart 3 (Option.some Jvm.ClassFile.FieldType.int) 2 RX2 := ⟨mC_yX2_inPart, mI_yX2_inPart, mV_yX2_inPart, mIn_RX2, rfl, by decide +kernel, by decide +kernel, by decide +kernel⟩
theorem zyX7_lengthOf : zYs yX7_lengthOf cX7_lengthOf 2 (Option.some Jvm.ClassFile.FieldType.long) 2 RX7 := ⟨mC_yX7_lengthOf, mS_yX7_lengthOf, mIn_RX7, rfl, by decide +kernel, by decide +kernel, by decide +kernel⟩
theorem zyX7_wide : zY yX7_wide cX7_wide 6 (Option.some Jvm.ClassFile.FieldType.int) 3 RX7 := ⟨mC_yX7_wide, mI_yX7_wide, mV_yX7_wide, mIn_RX7, rfl, by decide +kernel, by decide +kernel, by decide +kernel⟩
theorem zyX7_share : zY yX7_share cX7_share 7 (Option.some Jvm.ClassFile.FieldType.int) 2 RX7 := ⟨mC_yX7_share, mI_yX7_share, mV_yX7_share, mIn_RX7, rfl, by decide +kernel, by decide +kernel, by decide +kernel⟩
theorem zyX7_pair : zY yX7_pair cX7_pair 3 (Option.some Jvm.ClassFile.FieldType.int) 2 RX7 := ⟨mC_yX7_pair, mI_yX7_pair, mV_yX7_pair, mIn_RX7, rfl, by decide +kernel, by decide +kernel, by decide +kernel⟩
theorem zyX5_hasOrNone : zY yX5_hasOrNone cX5_hasOrNone 2 (Option.some Jvm.ClassFile.FieldType.boolean) 1 RX5 := ⟨mC_yX5_hasOrNone, mI_yX5_hasOrNone, mV_yX5_hasOrNone, mIn_RX5, rfl, by decide +kernel, by decide +kernel, by decide +kernel⟩
theorem zyX7_row : zY yX7_row cX7_row 4 (Option.some Jvm.ClassFile.FieldType.int) 2 RX7 := ⟨mC_yX7_row, mI_yX7_row, mV_yX7_row, mIn_RX7, rfl, by decide +kernel, by decide +kernel, by decide +kernel⟩
theorem zyX7_numberAt : zY yX7_numberAt cX7_numberAt 2 (Option.some Jvm.ClassFile.FieldType.int) 1 RX7 := ⟨mC_yX7_numberAt, mI_yX7_numberAt, mV_yX7_numberAt, mIn_RX7, rfl, by decide +kernel, by decide +kernel, by decide +kernel⟩
theorem zyX7_rowParts : zY yX7_rowParts cX7_rowParts 6 (Option.some (Jvm.ClassFile.FieldType.array Jvm.ClassFile.FieldType.long)) 3 RX7 := ⟨mC_yX7_rowParts, mI_yX7_rowParts, mV_yX7_rowParts, mIn_RX7, rfl, by decide +kernel, by decide +kernel, by decide +kernel⟩
theorem zyX7_shelf : zY yX7_shelf cX7_shelf 5 (Option.some Jvm.ClassFile.FieldType.int) 2 RX7 := ⟨mC_yX7_shelf, mI_yX7_shelf, mV_yX7_shelf, mIn_RX7, rfl, by decide +kernel, by decide +kernel, by decide +kernel⟩
theorem zyX7_set : zY yX7_set cX7_set 6 (Option.some Jvm.ClassFile.FieldType.int) 3 RX7 := ⟨mC_yX7_set, mI_yX7_set, mV_yX7_set, mIn_RX7, rfl, by decide +kernel, by decide +kernel, by decide +kernel⟩
theorem zyX4_isOf : zY yX4_isOf cX4_isOf 2 (Option.some Jvm.ClassFile.FieldType.boolean) 1 RX4 := ⟨mC_yX4_isOf, mI_yX4_isOf, mV_yX4_isOf, mIn_RX4, rfl, by decide +kernel, by decide +kernel, by decide +kernel⟩
theorem zyX2_inNoPart : zY yX2_inNoPart cX2_inNoPart 2 (Option.some Jvm.ClassFile.FieldType.int) 1 RX2 := ⟨mC_yX2_inNoPart, mI_yX2_inNoPart, mV_yX2_inNoPart, mIn_RX2, rfl, by decide +kernel, by decide +kernel, by decide +kernel⟩
theorem zyX4_hasPlace : zY yX4_hasPlace cX4_hasPlace 2 (Option.some Jvm.ClassFile.FieldType.boolean) 1 RX4 := ⟨mC_yX4_hasPlace, mI_yX4_hasPlace, mV_yX4_hasPlace, mIn_RX4, rfl, by decide +kernel, by decide +kernel, by decide +kernel⟩
theorem zyX4_hold : zY yX4_hold cX4_hold 3 (Option.none : Option Jvm.ClassFile.FieldType) 2 RX4 := ⟨mC_yX4_hold, mI_yX4_hold, mV_yX4_hold, mIn_RX4, rfl, by decide +kernel, by decide +kernel, by decide +kernel⟩
theorem zyX7_at : zY yX7_at cX7_at 4 (Option.some Jvm.ClassFile.FieldType.int) 2 RX7 := ⟨mC_yX7_at, mI_yX7_at, mV_yX7_at, mIn_RX7, rfl, by decide +kernel, by decide +kernel, by decide +kernel⟩
theorem zyX7_kind : zY yX7_kind cX7_kind 3 (Option.some Jvm.ClassFile.FieldType.int) 1 RX7 := ⟨mC_yX7_kind, mI_yX7_kind, mV_yX7_kind, mIn_RX7, rfl, by decide +kernel, by decide +kernel, by decide +kernel⟩
theorem zyX7_parts : zY yX7_parts cX7_parts 3 (Option.some Jvm.ClassFile.FieldType.int) 1 RX7 := ⟨mC_yX7_parts, mI_yX7_parts, mV_yX7_parts, mIn_RX7, rfl, by decide +kernel, by decide +kernel, by decide +kernel⟩
theorem zyX7_part : zY yX7_part cX7_part 4 (Option.some Jvm.ClassFile.FieldType.long) 2 RX7 := ⟨mC_yX7_part, mI_yX7_part, mV_yX7_part, mIn_RX7, rfl, by decide +kernel, by decide +kernel, by decide +kernel⟩
theorem zyX7_weight : zY yX7_weight cX7_weight 4 (Option.some Jvm.ClassFile.FieldType.long) 2 RX7 := ⟨mC_yX7_weight, mI_yX7_weight, mV_yX7_weight, mIn_RX7, rfl, by decide +kernel, by decide +kernel, by decide +kernel⟩
theorem zyX5_weighPairs : zY yX5_weighPairs cX5_weighPairs 5 (Option.none : Option Jvm.ClassFile.FieldType) 0 RX5 := ⟨mC_yX5_weighPairs, mI_yX5_weighPairs, mV_yX5_weighPairs, mIn_RX5, rfl, by decide +kernel, by decide +kernel, by decide +kernel⟩
theorem zyX4_heavyWeight : zY yX4_heavyWeight cX4_heavyWeight 3 (Option.some Jvm.ClassFile.FieldType.long) 0 RX4 := ⟨mC_yX4_heavyWeight, mI_yX4_heavyWeight, mV_yX4_heavyWeight, mIn_RX4, rfl, by decide +kernel, by decide +kernel, by decide +kernel⟩
theorem zyX7_equal : zY yX7_equal cX7_equal 5 (Option.some Jvm.ClassFile.FieldType.int) 2 RX7 := ⟨mC_yX7_equal, mI_yX7_equal, mV_yX7_equal, mIn_RX7, rfl, by decide +kernel, by decide +kernel, by decide +kernel⟩
theorem zyX4_isLike : zY yX4_isLike cX4_isLike 2 (Option.some Jvm.ClassFile.FieldType.boolean) 1 RX4 := ⟨mC_yX4_isLike, mI_yX4_isLike, mV_yX4_isLike, mIn_RX4, rfl, by decide +kernel, by decide +kernel, by decide +kernel⟩
theorem zyX7_hash : zY yX7_hash cX7_hash 3 (Option.some Jvm.ClassFile.FieldType.int) 1 RX7 := ⟨mC_yX7_hash, mI_yX7_hash, mV_yX7_hash, mIn_RX7, rfl, by decide +kernel, by decide +kernel, by decide +kernel⟩
theorem zyX7_order : zY yX7_order cX7_order 5 (Option.some Jvm.ClassFile.FieldType.int) 2 RX7 := ⟨mC_yX7_order, mI_yX7_order, mV_yX7_order, mIn_RX7, rfl, by decide +kernel, by decide +kernel, by decide +kernel⟩
theorem zyX7_ranked : zY yX7_ranked cX7_ranked 2 (Option.some Jvm.ClassFile.FieldType.int) 1 RX7 := ⟨mC_yX7_ranked, mI_yX7_ranked, mV_yX7_ranked, mIn_RX7, rfl, by decide +kernel, by decide +kernel, by decide +kernel⟩
theorem zyX5_numberRanked : zY yX5_numberRanked cX5_numberRanked 2 (Option.some Jvm.ClassFile.FieldType.int) 1 RX5 := ⟨mC_yX5_numberRanked, mI_yX5_numberRanked, mV_yX5_numberRanked, mIn_RX5, rfl, by decide +kernel, by decide +kernel, by decide +kernel⟩
theorem zyX7_first : zY yX7_first cX7_first 3 (Option.some Jvm.ClassFile.FieldType.int) 1 RX7 := ⟨mC_yX7_first, mI_yX7_first, mV_yX7_first, mIn_RX7, rfl, by decide +kernel, by decide +kernel, by decide +kernel⟩
theorem zyX5_firstLike : zY yX5_firstLike cX5_firstLike 3 (Option.some Jvm.ClassFile.FieldType.int) 1 RX5 := ⟨mC_yX5_firstLike, mI_yX5_firstLike, mV_yX5_firstLike, mIn_RX5, rfl, by decide +kernel, by decide +kernel, by decide +kernel⟩
theorem zyX7_family : zY yX7_family cX7_family 6 (Option.some Jvm.ClassFile.FieldType.int) 4 RX7 := ⟨mC_yX7_family, mI_yX7_family, mV_yX7_family, mIn_RX7, rfl, by decide +kernel, by decide +kernel, by decide +kernel⟩
theorem zyX7_areKindsOnce : zYs yX7_areKindsOnce cX7_areKindsOnce 6 (Option.some Jvm.ClassFile.FieldType.boolean) 1 RX7 := ⟨mC_yX7_areKindsOnce, mS_yX7_areKindsOnce, mIn_RX7, rfl, by decide +kernel, by decide +kernel, by decide +kernel⟩
theorem zyX3_init : zYi yX3_init cX3_init 3 1 RX3 := ⟨mC_yX3_init, mI_yX3_init, mIn_RX3, rfl, rfl, by decide +kernel, by decide +kernel, by decide +kernel⟩
theorem zyX7_tag : zY yX7_tag cX7_tag 5 (Option.some Jvm.ClassFile.FieldType.int) 2 RX7 := ⟨mC_yX7_tag, mI_yX7_tag, mV_yX7_tag, mIn_RX7, rfl, by decide +kernel, by decide +kernel, by decide +kernel⟩
theorem zyX7_findFamily : zY yX7_findFamily cX7_findFamily 2 (Option.some (Jvm.ClassFile.FieldType.object "KindRows$Family")) 1 RX7 := ⟨mC_yX7_findFamily, mI_yX7_findFamily, mV_yX7_findFamily, mIn_RX7, rfl, by decide +kernel, by decide +kernel, by decide +kernel⟩
theorem zyX3_tagOf : zY yX3_tagOf cX3_tagOf 4 (Option.some Jvm.ClassFile.FieldType.int) 1 RX3 := ⟨mC_yX3_tagOf, mI_yX3_tagOf, mV_yX3_tagOf, mIn_RX3, rfl, by decide +kernel, by decide +kernel, by decide +kernel⟩
theorem zyX7_tagged : zY yX7_tagged cX7_tagged 7 (Option.some Jvm.ClassFile.FieldType.int) 2 RX7 := ⟨mC_yX7_tagged, mI_yX7_tagged, mV_yX7_tagged, mIn_RX7, rfl, by decide +kernel, by decide +kernel, by decide +kernel⟩
theorem zyX7_constant : zY yX7_constant cX7_constant 5 (Option.some Jvm.ClassFile.FieldType.int) 2 RX7 := ⟨mC_yX7_constant, mI_yX7_constant, mV_yX7_constant, mIn_RX7, rfl, by decide +kernel, by decide +kernel, by decide +kernel⟩
theorem zyX7_findEnumeration : zY yX7_findEnumeration cX7_findEnumeration 2 (Option.some (Jvm.ClassFile.FieldType.object "KindRows$Enumeration")) 1 RX7 := ⟨mC_yX7_findEnumeration, mI_yX7_findEnumeration, mV_yX7_findEnumeration, mIn_RX7, rfl, by decide +kernel, by decide +kernel, by decide +kernel⟩
theorem zyX7_memberNamed : zY yX7_memberNamed cX7_memberNamed 5 (Option.some Jvm.ClassFile.FieldType.int) 2 RX7 := ⟨mC_yX7_memberNamed, mI_yX7_memberNamed, mV_yX7_memberNamed, mIn_RX7, rfl, by decide +kernel, by decide +kernel, by decide +kernel⟩
theorem zyX7_findConstant : zY yX7_findConstant cX7_findConstant 2 (Option.some (Jvm.ClassFile.FieldType.object "KindRows$Constant")) 1 RX7 := ⟨mC_yX7_findConstant, mI_yX7_findConstant, mV_yX7_findConstant, mIn_RX7, rfl, by decide +kernel, by decide +kernel, by decide +kernel⟩
theorem zyX0_init : zYi yX0_init cX0_init 3 2 RX0 := ⟨mC_yX0_init, mI_yX0_init, mIn_RX0, rfl, rfl, by decide +kernel, by decide +kernel, by decide +kernel⟩
theorem zyX1_append : zY yX1_append cX1_append 2 (Option.none : Option Jvm.ClassFile.FieldType) 1 RX1 := ⟨mC_yX1_append, mI_yX1_append, mV_yX1_append, mIn_RX1, rfl, by decide +kernel, by decide +kernel, by decide +kernel⟩
theorem zyX7_named : zY yX7_named cX7_named 5 (Option.some Jvm.ClassFile.FieldType.int) 2 RX7 := ⟨mC_yX7_named, mI_yX7_named, mV_yX7_named, mIn_RX7, rfl, by decide +kernel, by decide +kernel, by decide +kernel⟩
theorem zyX7_drop : zY yX7_drop cX7_drop 4 (Option.some Jvm.ClassFile.FieldType.int) 1 RX7 := ⟨mC_yX7_drop, mI_yX7_drop, mV_yX7_drop, mIn_RX7, rfl, by decide +kernel, by decide +kernel, by decide +kernel⟩
theorem zyX7_homeOf : zY yX7_homeOf cX7_homeOf 3 (Option.some (Jvm.ClassFile.FieldType.object "KindRows$Enumeration")) 1 RX7 := ⟨mC_yX7_homeOf, mI_yX7_homeOf, mV_yX7_homeOf, mIn_RX7, rfl, by decide +kernel, by decide +kernel, by decide +kernel⟩
theorem zyX1_placeOf : zY yX1_placeOf cX1_placeOf 3 (Option.some Jvm.ClassFile.FieldType.int) 1 RX1 := ⟨mC_yX1_placeOf, mI_yX1_placeOf, mV_yX1_placeOf, mIn_RX1, rfl, by decide +kernel, by decide +kernel, by decide +kernel⟩
theorem zyX1_remove : zY yX1_remove cX1_remove 3 (Option.none : Option Jvm.ClassFile.FieldType) 1 RX1 := ⟨mC_yX1_remove, mI_yX1_remove, mV_yX1_remove, mIn_RX1, rfl, by decide +kernel, by decide +kernel, by decide +kernel⟩
theorem zyX7_reorder : zY yX7_reorder cX7_reorder 4 (Option.some Jvm.ClassFile.FieldType.int) 1 RX7 := ⟨mC_yX7_reorder, mI_yX7_reorder, mV_yX7_reorder, mIn_RX7, rfl, by decide +kernel, by decide +kernel, by decide +kernel⟩
theorem zyX7_drawBelow : zY yX7_drawBelow cX7_drawBelow 2 (Option.some Jvm.ClassFile.FieldType.int) 1 RX7 := ⟨mC_yX7_drawBelow, mI_yX7_drawBelow, mV_yX7_drawBelow, mIn_RX7, rfl, by decide +kernel, by decide +kernel, by decide +kernel⟩
theorem zyX1_exchange : zY yX1_exchange cX1_exchange 4 (Option.none : Option Jvm.ClassFile.FieldType) 2 RX1 := ⟨mC_yX1_exchange, mI_yX1_exchange, mV_yX1_exchange, mIn_RX1, rfl, by decide +kernel, by decide +kernel, by decide +kernel⟩
theorem zyX7_seed : zY yX7_seed cX7_seed 3 (Option.some Jvm.ClassFile.FieldType.int) 1 RX7 := ⟨mC_yX7_seed, mI_yX7_seed, mV_yX7_seed, mIn_RX7, rfl, by decide +kernel, by decide +kernel, by decide +kernel⟩
theorem zyX7_told : zY yX7_told cX7_told 5 (Option.some Jvm.ClassFile.FieldType.int) 2 RX7 := ⟨mC_yX7_told, mI_yX7_told, mV_yX7_told, mIn_RX7, rfl, by decide +kernel, by decide +kernel, by decide +kernel⟩
theorem zyX7_placed : zY yX7_placed cX7_placed 4 (Option.some Jvm.ClassFile.FieldType.int) 2 RX7 := ⟨mC_yX7_placed, mI_yX7_placed, mV_yX7_placed, mIn_RX7, rfl, by decide +kernel, by decide +kernel, by decide +kernel⟩
theorem zyX7_put : zY yX7_put cX7_put 4 (Option.some Jvm.ClassFile.FieldType.int) 2 RX7 := ⟨mC_yX7_put, mI_yX7_put, mV_yX7_put, mIn_RX7, rfl, by decide +kernel, by decide +kernel, by decide +kernel⟩
theorem zyX7_keyOf : zYs yX7_keyOf cX7_keyOf 1 (Option.some Jvm.ClassFile.FieldType.int) 1 RX7 := ⟨mC_yX7_keyOf, mS_yX7_keyOf, mIn_RX7, rfl, by decide +kernel, by decide +kernel, by decide +kernel⟩
theorem zyX6_store : zY yX6_store cX6_store 4 (Option.some Jvm.ClassFile.FieldType.int) 2 RX6 := ⟨mC_yX6_store, mI_yX6_store, mV_yX6_store, mIn_RX6, rfl, by decide +kernel, by decide +kernel, by decide +kernel⟩
theorem zyX6_placeOf : zY yX6_placeOf cX6_placeOf 3 (Option.some Jvm.ClassFile.FieldType.int) 1 RX6 := ⟨mC_yX6_placeOf, mI_yX6_placeOf, mV_yX6_placeOf, mIn_RX6, rfl, by decide +kernel, by decide +kernel, by decide +kernel⟩
theorem zyX7_get : zY yX7_get cX7_get 3 (Option.some Jvm.ClassFile.FieldType.int) 1 RX7 := ⟨mC_yX7_get, mI_yX7_get, mV_yX7_get, mIn_RX7, rfl, by decide +kernel, by decide +kernel, by decide +kernel⟩
theorem zyX6_valueOf : zY yX6_valueOf cX6_valueOf 3 (Option.some Jvm.ClassFile.FieldType.int) 1 RX6 := ⟨mC_yX6_valueOf, mI_yX6_valueOf, mV_yX6_valueOf, mIn_RX6, rfl, by decide +kernel, by decide +kernel, by decide +kernel⟩
theorem zyX7_count : zY yX7_count cX7_count 2 (Option.some Jvm.ClassFile.FieldType.int) 1 RX7 := ⟨mC_yX7_count, mI_yX7_count, mV_yX7_count, mIn_RX7, rfl, by decide +kernel, by decide +kernel, by decide +kernel⟩
theorem zyX7_membersOfAll : zY yX7_membersOfAll cX7_membersOfAll 6 (Option.some Jvm.ClassFile.FieldType.int) 0 RX7 := ⟨mC_yX7_membersOfAll, mI_yX7_membersOfAll, mV_yX7_membersOfAll, mIn_RX7, rfl, by decide +kernel, by decide +kernel, by decide +kernel⟩
theorem zyX2_everOf : zY yX2_everOf cX2_everOf 2 (Option.some Jvm.ClassFile.FieldType.int) 1 RX2 := ⟨mC_yX2_everOf, mI_yX2_everOf, mV_yX2_everOf, mIn_RX2, rfl, by decide +kernel, by decide +kernel, by decide +kernel⟩
theorem zyX8_init : zYi yX8_init cX8_init 1 0 RX8 := ⟨mC_yX8_init, mI_yX8_init, mIn_RX8, rfl, rfl, by decide +kernel, by decide +kernel, by decide +kernel⟩
theorem zyX8_cause : zY yX8_cause cX8_cause 2 (Option.some Jvm.ClassFile.FieldType.int) 1 RX8 := ⟨mC_yX8_cause, mI_yX8_cause, mV_yX8_cause, mIn_RX8, rfl, by decide +kernel, by decide +kernel, by decide +kernel⟩
theorem zyX8_lay : zY yX8_lay cX8_lay 2 (Option.some Jvm.ClassFile.FieldType.int) 1 RX8 := ⟨mC_yX8_lay, mI_yX8_lay, mV_yX8_lay, mIn_RX8, rfl, by decide +kernel, by decide +kernel, by decide +kernel⟩
theorem zyX8_wipe : zY yX8_wipe cX8_wipe 2 (Option.some Jvm.ClassFile.FieldType.int) 0 RX8 := ⟨mC_yX8_wipe, mI_yX8_wipe, mV_yX8_wipe, mIn_RX8, rfl, by decide +kernel, by decide +kernel, by decide +kernel⟩
theorem zyX8_point : zY yX8_point cX8_point 5 (Option.some Jvm.ClassFile.FieldType.int) 2 RX8 := ⟨mC_yX8_point, mI_yX8_point, mV_yX8_point, mIn_RX8, rfl, by decide +kernel, by decide +kernel, by decide +kernel⟩
theorem zyX8_begin : zY yX8_begin cX8_begin 1 (Option.none : Option Jvm.ClassFile.FieldType) 0 RX8 := ⟨mC_yX8_begin, mI_yX8_begin, mV_yX8_begin, mIn_RX8, rfl, by decide +kernel, by decide +kernel, by decide +kernel⟩
theorem zyX8_start : zY yX8_start cX8_start 2 (Option.none : Option Jvm.ClassFile.FieldType) 1 RX8 := ⟨mC_yX8_start, mI_yX8_start, mV_yX8_start, mIn_RX8, rfl, by decide +kernel, by decide +kernel, by decide +kernel⟩
theorem zyX8_clean : zYs yX8_clean cX8_clean 2 (Option.some Jvm.ClassFile.FieldType.long) 1 RX8 := ⟨mC_yX8_clean, mS_yX8_clean, mIn_RX8, rfl, by decide +kernel, by decide +kernel, by decide +kernel⟩
theorem zyX8_part : zY yX8_part cX8_part 3 (Option.none : Option Jvm.ClassFile.FieldType) 1 RX8 := ⟨mC_yX8_part, mI_yX8_part, mV_yX8_part, mIn_RX8, rfl, by decide +kernel, by decide +kernel, by decide +kernel⟩
theorem zyX8_made : zY yX8_made cX8_made 1 (Option.some Jvm.ClassFile.FieldType.int) 0 RX8 := ⟨mC_yX8_made, mI_yX8_made, mV_yX8_made, mIn_RX8, rfl, by decide +kernel, by decide +kernel, by decide +kernel⟩
theorem zyX8_leastLike : zY yX8_leastLike cX8_leastLike 5 (Option.some Jvm.ClassFile.FieldType.int) 1 RX8 := ⟨mC_yX8_leastLike, mI_yX8_leastLike, mV_yX8_leastLike, mIn_RX8, rfl, by decide +kernel, by decide +kernel, by decide +kernel⟩
theorem zyX8_isFigurePart : zY yX8_isFigurePart cX8_isFigurePart 2 (Option.some Jvm.ClassFile.FieldType.boolean) 1 RX8 := ⟨mC_yX8_isFigurePart, mI_yX8_isFigurePart, mV_yX8_isFigurePart, mIn_RX8, rfl, by decide +kernel, by decide +kernel, by decide +kernel⟩
theorem zyX8_cellOf : zY yX8_cellOf cX8_cellOf 3 (Option.some Jvm.ClassFile.FieldType.long) 2 RX8 := ⟨mC_yX8_cellOf, mI_yX8_cellOf, mV_yX8_cellOf, mIn_RX8, rfl, by decide +kernel, by decide +kernel, by decide +kernel⟩
theorem zyX8_likeOf : zY yX8_likeOf cX8_likeOf 3 (Option.some Jvm.ClassFile.FieldType.int) 1 RX8 := ⟨mC_yX8_likeOf, mI_yX8_likeOf, mV_yX8_likeOf, mIn_RX8, rfl, by decide +kernel, by decide +kernel, by decide +kernel⟩
theorem zyX8_hashOf : zY yX8_hashOf cX8_hashOf 6 (Option.some Jvm.ClassFile.FieldType.int) 1 RX8 := ⟨mC_yX8_hashOf, mI_yX8_hashOf, mV_yX8_hashOf, mIn_RX8, rfl, by decide +kernel, by decide +kernel, by decide +kernel⟩
theorem zyX8_folded : zYs yX8_folded cX8_folded 2 (Option.some Jvm.ClassFile.FieldType.int) 1 RX8 := ⟨mC_yX8_folded, mS_yX8_folded, mIn_RX8, rfl, by decide +kernel, by decide +kernel, by decide +kernel⟩
theorem zyX8_span : zY yX8_span cX8_span 3 (Option.some Jvm.ClassFile.FieldType.int) 2 RX8 := ⟨mC_yX8_span, mI_yX8_span, mV_yX8_span, mIn_RX8, rfl, by decide +kernel, by decide +kernel, by decide +kernel⟩
theorem zyX8_fails : zY yX8_fails cX8_fails 4 (Option.some Jvm.ClassFile.FieldType.int) 3 RX8 := ⟨mC_yX8_fails, mI_yX8_fails, mV_yX8_fails, mIn_RX8, rfl, by decide +kernel, by decide +kernel, by decide +kernel⟩
theorem zyX8_wide : zY yX8_wide cX8_wide 4 (Option.some Jvm.ClassFile.FieldType.int) 3 RX8 := ⟨mC_yX8_wide, mI_yX8_wide, mV_yX8_wide, mIn_RX8, rfl, by decide +kernel, by decide +kernel, by decide +kernel⟩
theorem zyX8_share : zY yX8_share cX8_share 5 (Option.some Jvm.ClassFile.FieldType.int) 2 RX8 := ⟨mC_yX8_share, mI_yX8_share, mV_yX8_share, mIn_RX8, rfl, by decide +kernel, by decide +kernel, by decide +kernel⟩
theorem zyX8_pair : zY yX8_pair cX8_pair 3 (Option.some Jvm.ClassFile.FieldType.int) 2 RX8 := ⟨mC_yX8_pair, mI_yX8_pair, mV_yX8_pair, mIn_RX8, rfl, by decide +kernel, by decide +kernel, by decide +kernel⟩
theorem zyX8_isFigure : zY yX8_isFigure cX8_isFigure 2 (Option.some Jvm.ClassFile.FieldType.boolean) 1 RX8 := ⟨mC_yX8_isFigure, mI_yX8_isFigure, mV_yX8_isFigure, mIn_RX8, rfl, by decide +kernel, by decide +kernel, by decide +kernel⟩
theorem zyX8_row : zY yX8_row cX8_row 4 (Option.some Jvm.ClassFile.FieldType.int) 2 RX8 := ⟨mC_yX8_row, mI_yX8_row, mV_yX8_row, mIn_RX8, rfl, by decide +kernel, by decide +kernel, by decide +kernel⟩
theorem zyX8_laid : zY yX8_laid cX8_laid 2 (Option.some Jvm.ClassFile.FieldType.int) 1 RX8 := ⟨mC_yX8_laid, mI_yX8_laid, mV_yX8_laid, mIn_RX8, rfl, by decide +kernel, by decide +kernel, by decide +kernel⟩
theorem zyX8_shelf : zY yX8_shelf cX8_shelf 4 (Option.some Jvm.ClassFile.FieldType.int) 2 RX8 := ⟨mC_yX8_shelf, mI_yX8_shelf, mV_yX8_shelf, mIn_RX8, rfl, by decide +kernel, by decide +kernel, by decide +kernel⟩
theorem zyX8_set : zY yX8_set cX8_set 4 (Option.some Jvm.ClassFile.FieldType.int) 3 RX8 := ⟨mC_yX8_set, mI_yX8_set, mV_yX8_set, mIn_RX8, rfl, by decide +kernel, by decide +kernel, by decide +kernel⟩
theorem zyX8_hasPlace : zY yX8_hasPlace cX8_hasPlace 3 (Option.some Jvm.ClassFile.FieldType.boolean) 2 RX8 := ⟨mC_yX8_hasPlace, mI_yX8_hasPlace, mV_yX8_hasPlace, mIn_RX8, rfl, by decide +kernel, by decide +kernel, by decide +kernel⟩
theorem zyX8_at_ : zY yX8_at_ cX8_at_ 3 (Option.some Jvm.ClassFile.FieldType.int) 2 RX8 := ⟨mC_yX8_at_, mI_yX8_at_, mV_yX8_at_, mIn_RX8, rfl, by decide +kernel, by decide +kernel, by decide +kernel⟩
theorem zyX8_kind : zY yX8_kind cX8_kind 2 (Option.some Jvm.ClassFile.FieldType.int) 1 RX8 := ⟨mC_yX8_kind, mI_yX8_kind, mV_yX8_kind, mIn_RX8, rfl, by decide +kernel, by decide +kernel, by decide +kernel⟩
theorem zyX8_parts : zY yX8_parts cX8_parts 2 (Option.some Jvm.ClassFile.FieldType.int) 1 RX8 := ⟨mC_yX8_parts, mI_yX8_parts, mV_yX8_parts, mIn_RX8, rfl, by decide +kernel, by decide +kernel, by decide +kernel⟩
theorem zyX8_part_ : zY yX8_part_ cX8_part_ 3 (Option.some Jvm.ClassFile.FieldType.long) 2 RX8 := ⟨mC_yX8_part_, mI_yX8_part_, mV_yX8_part_, mIn_RX8, rfl, by decide +kernel, by decide +kernel, by decide +kernel⟩
theorem zyX8_at : zY yX8_at cX8_at 5 (Option.some Jvm.ClassFile.FieldType.long) 3 RX8 := ⟨mC_yX8_at, mI_yX8_at, mV_yX8_at, mIn_RX8, rfl, by decide +kernel, by decide +kernel, by decide +kernel⟩
theorem zyX8_weight : zY yX8_weight cX8_weight 4 (Option.some Jvm.ClassFile.FieldType.long) 2 RX8 := ⟨mC_yX8_weight, mI_yX8_weight, mV_yX8_weight, mIn_RX8, rfl, by decide +kernel, by decide +kernel, by decide +kernel⟩
theorem zyX8_weightOf : zY yX8_weightOf cX8_weightOf 8 (Option.some Jvm.ClassFile.FieldType.long) 1 RX8 := ⟨mC_yX8_weightOf, mI_yX8_weightOf, mV_yX8_weightOf, mIn_RX8, rfl, by decide +kernel, by decide +kernel, by decide +kernel⟩
theorem zyX8_heavyOf : zY yX8_heavyOf cX8_heavyOf 4 (Option.some Jvm.ClassFile.FieldType.long) 1 RX8 := ⟨mC_yX8_heavyOf, mI_yX8_heavyOf, mV_yX8_heavyOf, mIn_RX8, rfl, by decide +kernel, by decide +kernel, by decide +kernel⟩
theorem zyX8_equal : zY yX8_equal cX8_equal 3 (Option.some Jvm.ClassFile.FieldType.int) 2 RX8 := ⟨mC_yX8_equal, mI_yX8_equal, mV_yX8_equal, mIn_RX8, rfl, by decide +kernel, by decide +kernel, by decide +kernel⟩
theorem zyX8_hash : zY yX8_hash cX8_hash 2 (Option.some Jvm.ClassFile.FieldType.int) 1 RX8 := ⟨mC_yX8_hash, mI_yX8_hash, mV_yX8_hash, mIn_RX8, rfl, by decide +kernel, by decide +kernel, by decide +kernel⟩
theorem zyX8_first : zY yX8_first cX8_first 2 (Option.some Jvm.ClassFile.FieldType.int) 1 RX8 := ⟨mC_yX8_first, mI_yX8_first, mV_yX8_first, mIn_RX8, rfl, by decide +kernel, by decide +kernel, by decide +kernel⟩
theorem zyX8_order : zY yX8_order cX8_order 3 (Option.some Jvm.ClassFile.FieldType.int) 2 RX8 := ⟨mC_yX8_order, mI_yX8_order, mV_yX8_order, mIn_RX8, rfl, by decide +kernel, by decide +kernel, by decide +kernel⟩
theorem zyX8_ordered : zY yX8_ordered cX8_ordered 3 (Option.some Jvm.ClassFile.FieldType.int) 2 RX8 := ⟨mC_yX8_ordered, mI_yX8_ordered, mV_yX8_ordered, mIn_RX8, rfl, by decide +kernel, by decide +kernel, by decide +kernel⟩
theorem zyX8_compared : zY yX8_compared cX8_compared 10 (Option.some Jvm.ClassFile.FieldType.int) 2 RX8 := ⟨mC_yX8_compared, mI_yX8_compared, mV_yX8_compared, mIn_RX8, rfl, by decide +kernel, by decide +kernel, by decide +kernel⟩
theorem zyX8_by : zYs yX8_by cX8_by 4 (Option.some Jvm.ClassFile.FieldType.int) 2 RX8 := ⟨mC_yX8_by, mS_yX8_by, mIn_RX8, rfl, by decide +kernel, by decide +kernel, by decide +kernel⟩
theorem zyX8_byRows : zY yX8_byRows cX8_byRows 6 (Option.some Jvm.ClassFile.FieldType.int) 2 RX8 := ⟨mC_yX8_byRows, mI_yX8_byRows, mV_yX8_byRows, mIn_RX8, rfl, by decide +kernel, by decide +kernel, by decide +kernel⟩
theorem zyX8_line : zYs yX8_line cX8_line 2 (Option.some Jvm.ClassFile.FieldType.long) 1 RX8 := ⟨mC_yX8_line, mS_yX8_line, mIn_RX8, rfl, by decide +kernel, by decide +kernel, by decide +kernel⟩
theorem zyX8_ranked : zY yX8_ranked cX8_ranked 6 (Option.some Jvm.ClassFile.FieldType.int) 1 RX8 := ⟨mC_yX8_ranked, mI_yX8_ranked, mV_yX8_ranked, mIn_RX8, rfl, by decide +kernel, by decide +kernel, by decide +kernel⟩
theorem zyX8_family : zY yX8_family cX8_family 9 (Option.some Jvm.ClassFile.FieldType.int) 4 RX8 := ⟨mC_yX8_family, mI_yX8_family, mV_yX8_family, mIn_RX8, rfl, by decide +kernel, by decide +kernel, by decide +kernel⟩
theorem zyX8_told4 : zYs yX8_told4 cX8_told4 5 (Option.some Jvm.ClassFile.FieldType.int) 5 RX8 := ⟨mC_yX8_told4, mS_yX8_told4, mIn_RX8, rfl, by decide +kernel, by decide +kernel, by decide +kernel⟩
theorem zyX8_tag : zY yX8_tag cX8_tag 3 (Option.some Jvm.ClassFile.FieldType.int) 2 RX8 := ⟨mC_yX8_tag, mI_yX8_tag, mV_yX8_tag, mIn_RX8, rfl, by decide +kernel, by decide +kernel, by decide +kernel⟩
theorem zyX8_tagOf : zY yX8_tagOf cX8_tagOf 7 (Option.some Jvm.ClassFile.FieldType.int) 2 RX8 := ⟨mC_yX8_tagOf, mI_yX8_tagOf, mV_yX8_tagOf, mIn_RX8, rfl, by decide +kernel, by decide +kernel, by decide +kernel⟩
theorem zyX8_tagged : zY yX8_tagged cX8_tagged 5 (Option.some Jvm.ClassFile.FieldType.int) 2 RX8 := ⟨mC_yX8_tagged, mI_yX8_tagged, mV_yX8_tagged, mIn_RX8, rfl, by decide +kernel, by decide +kernel, by decide +kernel⟩
theorem zyX8_constant : zY yX8_constant cX8_constant 3 (Option.some Jvm.ClassFile.FieldType.int) 2 RX8 := ⟨mC_yX8_constant, mI_yX8_constant, mV_yX8_constant, mIn_RX8, rfl, by decide +kernel, by decide +kernel, by decide +kernel⟩
theorem zyX8_isEnumeration : zYs yX8_isEnumeration cX8_isEnumeration 1 (Option.some Jvm.ClassFile.FieldType.boolean) 1 RX8 := ⟨mC_yX8_isEnumeration, mS_yX8_isEnumeration, mIn_RX8, rfl, by decide +kernel, by decide +kernel, by decide +kernel⟩
theorem zyX8_constantOf : zY yX8_constantOf cX8_constantOf 4 (Option.some Jvm.ClassFile.FieldType.int) 2 RX8 := ⟨mC_yX8_constantOf, mI_yX8_constantOf, mV_yX8_constantOf, mIn_RX8, rfl, by decide +kernel, by decide +kernel, by decide +kernel⟩
theorem zyX8_named : zY yX8_named cX8_named 4 (Option.some Jvm.ClassFile.FieldType.int) 2 RX8 := ⟨mC_yX8_named, mI_yX8_named, mV_yX8_named, mIn_RX8, rfl, by decide +kernel, by decide +kernel, by decide +kernel⟩
theorem zyX8_drop : zY yX8_drop cX8_drop 4 (Option.some Jvm.ClassFile.FieldType.int) 1 RX8 := ⟨mC_yX8_drop, mI_yX8_drop, mV_yX8_drop, mIn_RX8, rfl, by decide +kernel, by decide +kernel, by decide +kernel⟩
theorem zyX8_isConstant : zY yX8_isConstant cX8_isConstant 2 (Option.some Jvm.ClassFile.FieldType.boolean) 1 RX8 := ⟨mC_yX8_isConstant, mI_yX8_isConstant, mV_yX8_isConstant, mIn_RX8, rfl, by decide +kernel, by decide +kernel, by decide +kernel⟩
theorem zyX8_reorder : zY yX8_reorder cX8_reorder 6 (Option.some Jvm.ClassFile.FieldType.int) 1 RX8 := ⟨mC_yX8_reorder, mI_yX8_reorder, mV_yX8_reorder, mIn_RX8, rfl, by decide +kernel, by decide +kernel, by decide +kernel⟩
theorem zyX8_constantAt : zY yX8_constantAt cX8_constantAt 4 (Option.some Jvm.ClassFile.FieldType.int) 2 RX8 := ⟨mC_yX8_constantAt, mI_yX8_constantAt, mV_yX8_constantAt, mIn_RX8, rfl, by decide +kernel, by decide +kernel, by decide +kernel⟩
theorem zyX8_seed : zY yX8_seed cX8_seed 3 (Option.some Jvm.ClassFile.FieldType.int) 1 RX8 := ⟨mC_yX8_seed, mI_yX8_seed, mV_yX8_seed, mIn_RX8, rfl, by decide +kernel, by decide +kernel, by decide +kernel⟩
theorem zyX8_told : zY yX8_told cX8_told 3 (Option.some Jvm.ClassFile.FieldType.int) 2 RX8 := ⟨mC_yX8_told, mI_yX8_told, mV_yX8_told, mIn_RX8, rfl, by decide +kernel, by decide +kernel, by decide +kernel⟩
theorem zyX8_placed : zY yX8_placed cX8_placed 3 (Option.some Jvm.ClassFile.FieldType.int) 2 RX8 := ⟨mC_yX8_placed, mI_yX8_placed, mV_yX8_placed, mIn_RX8, rfl, by decide +kernel, by decide +kernel, by decide +kernel⟩
theorem zyX8_put : zY yX8_put cX8_put 5 (Option.some Jvm.ClassFile.FieldType.int) 2 RX8 := ⟨mC_yX8_put, mI_yX8_put, mV_yX8_put, mIn_RX8, rfl, by decide +kernel, by decide +kernel, by decide +kernel⟩
theorem zyX8_keyOf : zY yX8_keyOf cX8_keyOf 3 (Option.some Jvm.ClassFile.FieldType.int) 1 RX8 := ⟨mC_yX8_keyOf, mI_yX8_keyOf, mV_yX8_keyOf, mIn_RX8, rfl, by decide +kernel, by decide +kernel, by decide +kernel⟩
theorem zyX8_get : zY yX8_get cX8_get 2 (Option.some Jvm.ClassFile.FieldType.int) 1 RX8 := ⟨mC_yX8_get, mI_yX8_get, mV_yX8_get, mIn_RX8, rfl, by decide +kernel, by decide +kernel, by decide +kernel⟩
theorem zyX8_count : zY yX8_count cX8_count 2 (Option.some Jvm.ClassFile.FieldType.int) 1 RX8 := ⟨mC_yX8_count, mI_yX8_count, mV_yX8_count, mIn_RX8, rfl, by decide +kernel, by decide +kernel, by decide +kernel⟩
end
section
abbrev rmX2_init : Room := { frames := 1, cells := 1, slots := 8, locals := 12 }
set_option maxHeartbeats 4000000 in
set_option maxRecDepth 100000 in
theorem k_X2_init (l : Launch) (D : va_G) (cy : Nat → ClassId) (f : zM) (h : Nat) (p0 : f h = some (.inr (2, [.int 0, .int 0, .int 0, .null])))  : zCv l D cy yX2_init cX2_init 1 none rmX2_init [.ref h] f (fun (f1 : zM) => ∃ (ev : Nat), f1 h = some (.inr (2, [.int 0, .int (-1), .int 0, .ref ev])) ∧ f1 ev = some (.inl (cy 0, 8, .inl (fun _ => 0))) ∧ (∀ (b : Nat) (e : va_E), f b = some e → b ≠ h → f1 b = some e)) := by
  intro sz
  refine z_body (by decide +kernel) (Nat.le_of_ble_eq_true rfl) ?_
  intro p e s m below meth c ls C hr hin hsz hz hl
  subst hsz
  have hx := C.1
  have hb := C.2.1
  have hA : ∀ q, s.heap.size ≤ q → zA f s.heap.size q := fun q h => Or.inr h
  have hS : va_S (zA f s.heap.size) s.heap s.heap [] := va_S.rf
  have hl : lv_has ls 1 [(0, .ref h)] := hl
  refine lv_aload_n hx hb dX2_init_0 rfl (lv_at hl 0 rfl) ?_
  refine z_objI C hl mMX2_3 (Nat.le_of_ble_eq_true rfl) (Nat.le_of_ble_eq_true rfl) dX2_init_1 ?_
  refine lv_aload_n hx hb dX2_init_4 rfl (lv_at hl 0 rfl) ?_
  refine lv_iconst (v := 0) hx hb dX2_init_5 (by decide) ?_
  refine z_put (fs' := [.int 0, .int 0, .int 0, .null]) C hz hS p0 zl2 mFX2_9 (by decide) rfl rfl rfl (Nat.le_of_ble_eq_true rfl) rfl dX2_init_6 (fun H locs f1 a2 k3 hz hS => ?_)
  refine lv_aload_n hx hb dX2_init_9 rfl (lv_at hl 0 rfl) ?_
  refine lv_iconst (v := (-1)) hx hb dX2_init_10 (by decide) ?_
  refine z_put (fs' := [.int 0, .int (-1), .int 0, .null]) C hz hS a2 zl2 mFX2_15 (by decide) rfl rfl rfl (Nat.le_of_ble_eq_true rfl) rfl dX2_init_11 (fun H locs f4 a5 k6 hz hS => ?_)
  refine lv_aload_n hx hb dX2_init_14 rfl (lv_at hl 0 rfl) ?_
  refine lv_iconst (v := 0) hx hb dX2_init_15 (by decide) ?_
  refine z_put (fs' := [.int 0, .int (-1), .int 0, .null]) C hz hS a5 zl2 mFX2_18 (by decide) rfl rfl rfl (Nat.le_of_ble_eq_true rfl) rfl dX2_init_16 (fun H locs f7 a8 k9 hz hS => ?_)
  refine lv_aload_n hx hb dX2_init_19 rfl (lv_at hl 0 rfl) ?_
  refine lv_bipush (v := 8) hx hb dX2_init_20 (by decide) ?_
  refine z_newa (atype := .int) (t0 := 0) (N' := 8) (x := (.inl (fun _ => 0))) C hz hS hA rfl mA_int rfl (fun _ => rfl) (by decide) (Nat.le_of_ble_eq_true rfl) (by decide) (Nat.le_of_ble_eq_true rfl) (Nat.le_of_ble_eq_true rfl) dX2_init_22 (fun q10 H f12 u11 a13 k14 hz hS => ?_)
  have a15 : f12 h = some (.inr (2, [.int 0, .int (-1), .int 0, .null])) := (k14 _ (z_nn u11 a8)).trans a8
  refine z_putF (fs' := [.int 0, .int (-1), .int 0, .ref q10]) C hz hS a15 zl2 mFX2_21 (by decide) rfl hin rfl rfl rfl (Nat.le_of_ble_eq_true rfl) rfl dX2_init_24 (fun H locs f16 a17 k18 hz hS => ?_)
  have a19 : f16 q10 = some (.inl (cy 0, 8, .inl (fun _ => 0))) := (k18 _ (Ne.symm (z_nn u11 a8))).trans a13
  exact z_vret C hr hz hS ⟨q10, a17, a19, (by
        intro b e hb n0
        have hb0 : f1 b = some e := (k3 b n0).trans hb
        have hb1 : f4 b = some e := (k6 b n0).trans hb0
        have hb2 : f7 b = some e := (k9 b n0).trans hb1
        have nn3 : b ≠ q10 := z_nn u11 hb2
        have hb3 : f12 b = some e := (k14 b nn3).trans hb2
        have hb4 : f16 b = some e := (k18 b n0).trans hb3
        exact hb4)⟩ (Nat.le_of_ble_eq_true rfl) (Nat.le_of_ble_eq_true rfl) dX2_init_27
abbrev rmX2_none : Room := { frames := 0, cells := 0, slots := 0, locals := 0 }
set_option maxHeartbeats 4000000 in
set_option maxRecDepth 100000 in
theorem k_X2_none (l : Launch) (D : va_G) (cy : Nat → ClassId) (f : zM) (h : Nat) (u1 : Int32) (u2 : Int32) (u3 : Int32) (ev : Nat) (p0 : f h = some (.inr (2, [.int u1, .int u2, .int u3, .ref ev])))  : zCv l D cy yX2_none cX2_none 1 none rmX2_none [.ref h] f (fun (f1 : zM) => f1 h = some (.inr (2, [.int 0, .int (-1), .int 0, .ref ev])) ∧ (∀ (b : Nat) (e : va_E), f b = some e → b ≠ h → f1 b = some e)) := by
  intro sz
  refine z_body (by decide +kernel) (Nat.le_of_ble_eq_true rfl) ?_
  intro p e s m below meth c ls C hr hin hsz hz hl
  subst hsz
  have hx := C.1
  have hb := C.2.1
  have hA : ∀ q, s.heap.size ≤ q → zA f s.heap.size q := fun q h => Or.inr h
  have hS : va_S (zA f s.heap.size) s.heap s.heap [] := va_S.rf
  have hl : lv_has ls 1 [(0, .ref h)] := hl
  refine lv_aload_n hx hb dX2_none_0 rfl (lv_at hl 0 rfl) ?_
  refine lv_iconst (v := 0) hx hb dX2_none_1 (by decide) ?_
  refine z_put (fs' := [.int 0, .int u2, .int u3, .ref ev]) C hz hS p0 zl2 mFX2_9 (by decide) rfl rfl rfl (Nat.le_of_ble_eq_true rfl) rfl dX2_none_2 (fun H locs f1 a2 k3 hz hS => ?_)
  refine lv_aload_n hx hb dX2_none_5 rfl (lv_at hl 0 rfl) ?_
  refine lv_iconst (v := (-1)) hx hb dX2_none_6 (by decide) ?_
  refine z_put (fs' := [.int 0, .int (-1), .int u3, .ref ev]) C hz hS a2 zl2 mFX2_15 (by decide) rfl rfl rfl (Nat.le_of_ble_eq_true rfl) rfl dX2_none_7 (fun H locs f4 a5 k6 hz hS => ?_)
  refine lv_aload_n hx hb dX2_none_10 rfl (lv_at hl 0 rfl) ?_
  refine lv_iconst (v := 0) hx hb dX2_none_11 (by decide) ?_
  refine z_put (fs' := [.int 0, .int (-1), .int 0, .ref ev]) C hz hS a5 zl2 mFX2_18 (by decide) rfl rfl rfl (Nat.le_of_ble_eq_true rfl) rfl dX2_none_12 (fun H locs f7 a8 k9 hz hS => ?_)
  exact z_vret C hr hz hS ⟨a8, (by
        intro b e hb n0
        have hb0 : f1 b = some e := (k3 b n0).trans hb
        have hb1 : f4 b = some e := (k6 b n0).trans hb0
        have hb2 : f7 b = some e := (k9 b n0).trans hb1
        exact hb2)⟩ (Nat.le_of_ble_eq_true rfl) (Nat.le_of_ble_eq_true rfl) dX2_none_15
abbrev rmX2_inPart : Room := { frames := 0, cells := 0, slots := 0, locals := 0 }
set_option maxHeartbeats 4000000 in
set_option maxRecDepth 100000 in
theorem k_X2_inPart (l : Launch) (D : va_G) (cy : Nat → ClassId) (f : zM) (h : Nat) (x : Int32) (y : Int32) (u1 : Int32) (u2 : Int32) (u3 : Int32) (ev : Nat) (g : Nat → Int32) (k : Nat) (p0 : f h = some (.inr (2, [.int u1, .int u2, .int u3, .ref ev]))) (p1 : f ev = some (.inl (cy 0, 8, .inl g))) (hk : x = nI k) (hk8 : k < 8) : zCi l D cy yX2_inPart cX2_inPart 3 (Option.some Jvm.ClassFile.FieldType.int) rmX2_inPart [.ref h, .int x, .int y] f (fun (r : Int32) (f1 : zM) => r = (-4) ∧ f1 h = some (.inr (2, [.int x, .int y, .int u3, .ref ev])) ∧ f1 ev = some (.inl (cy 0, 8, .inl (upd g k (g k + 1)))) ∧ (∀ (b : Nat) (e : va_E), f b = some e → b ≠ h → b ≠ ev → f1 b = some e)) := by
  intro sz
  refine z_body (by decide +kernel) (Nat.le_of_ble_eq_true rfl) ?_
  intro p e s m below meth c ls C hr hin hsz hz hl
  subst hsz
  have hx := C.1
  have hb := C.2.1
  have hA : ∀ q, s.heap.size ≤ q → zA f s.heap.size q := fun q h => Or.inr h
  have hS : va_S (zA f s.heap.size) s.heap s.heap [] := va_S.rf
  have hl : lv_has ls 3 [(0, .ref h), (1, .int x), (2, .int y)] := hl
  refine lv_aload_n hx hb dX2_inPart_0 rfl (lv_at hl 0 rfl) ?_
  refine lv_iload_n hx hb dX2_inPart_1 rfl (lv_at hl 1 rfl) ?_
  refine z_put (fs' := [.int x, .int u2, .int u3, .ref ev]) C hz hS p0 zl2 mFX2_9 (by decide) rfl rfl rfl (Nat.le_of_ble_eq_true rfl) rfl dX2_inPart_2 (fun H locs f1 a2 k3 hz hS => ?_)
  refine lv_aload_n hx hb dX2_inPart_5 rfl (lv_at hl 0 rfl) ?_
  refine lv_iload_n hx hb dX2_inPart_6 rfl (lv_at hl 2 rfl) ?_
  refine z_put (fs' := [.int x, .int y, .int u3, .ref ev]) C hz hS a2 zl2 mFX2_15 (by decide) rfl rfl rfl (Nat.le_of_ble_eq_true rfl) rfl dX2_inPart_7 (fun H locs f4 a5 k6 hz hS => ?_)
  refine lv_aload_n hx hb dX2_inPart_10 rfl (lv_at hl 0 rfl) ?_
  refine z_get (v := .ref ev) C hz a5 zl2 mFX2_21 (by decide) rfl dX2_inPart_11 ?_
  refine lv_iload_n hx hb dX2_inPart_14 rfl (lv_at hl 1 rfl) ?_
  refine lv_dup2_11 hx hb dX2_inPart_15 rfl rfl ?_
  have a7 : f1 ev = some (.inl (cy 0, 8, .inl g)) := (k3 _ (z_ne p1 p0 rfl)).trans p1
  have a8 : f4 ev = some (.inl (cy 0, 8, .inl g)) := (k6 _ (z_ne a7 a2 rfl)).trans a7
  refine z_iald k C hz a8 hk hk8 (by omega) dX2_inPart_16 ?_
  refine lv_iconst (v := 1) hx hb dX2_inPart_17 (by decide) ?_
  refine lv_iadd hx hb dX2_inPart_18 ?_
  refine z_iast k C hz hS a8 hk hk8 (by omega) dX2_inPart_19 (fun H locs f9 a10 k11 hz hS => ?_)
  refine lv_bipush (v := (-4)) hx hb dX2_inPart_20 (by decide) ?_
  have a12 : f9 h = some (.inr (2, [.int x, .int y, .int u3, .ref ev])) := (k11 _ (z_ne a5 a8 rfl)).trans a5
  exact z_iret C hr rfl hz hS ⟨rfl, a12, a10, (by
        intro b e hb n0 n1
        have hb0 : f1 b = some e := (k3 b n0).trans hb
        have hb1 : f4 b = some e := (k6 b n0).trans hb0
        have hb2 : f9 b = some e := (k11 b n1).trans hb1
        exact hb2)⟩ (Nat.le_of_ble_eq_true rfl) (Nat.le_of_ble_eq_true rfl) dX2_inPart_22
abbrev rmX2_own : Room := { frames := 1, cells := 0, slots := 0, locals := 22 }
set_option maxHeartbeats 4000000 in
set_option maxRecDepth 100000 in
theorem k_X2_own (l : Launch) (D : va_G) (cy : Nat → ClassId) (f : zM) (h : Nat) (x : Int32) (y : Int32) (u1 : Int32) (u2 : Int32) (u3 : Int32) (ev : Nat) (g : Nat → Int32) (p0 : f h = some (.inr (2, [.int u1, .int u2, .int u3, .ref ev]))) (p1 : f ev = some (.inl (cy 0, 8, .inl g)))  : zCi l D cy yX2_own cX2_own 3 (Option.some Jvm.ClassFile.FieldType.int) rmX2_own [.ref h, .int x, .int y] f (fun (r : Int32) (f1 : zM) => r = (-4) ∧ f1 h = some (.inr (2, [.int 7, .int y, .int x, .ref ev])) ∧ f1 ev = some (.inl (cy 0, 8, .inl (upd g 7 (g 7 + 1)))) ∧ (∀ (b : Nat) (e : va_E), f b = some e → b ≠ h → b ≠ ev → f1 b = some e)) := by
  intro sz
  refine z_body (by decide +kernel) (Nat.le_of_ble_eq_true rfl) ?_
  intro p e s m below meth c ls C hr hin hsz hz hl
  subst hsz
  have hx := C.1
  have hb := C.2.1
  have hA : ∀ q, s.heap.size ≤ q → zA f s.heap.size q := fun q h => Or.inr h
  have hS : va_S (zA f s.heap.size) s.heap s.heap [] := va_S.rf
  have hl : lv_has ls 3 [(0, .ref h), (1, .int x), (2, .int y)] := hl
  refine lv_aload_n hx hb dX2_own_0 rfl (lv_at hl 0 rfl) ?_
  refine lv_iload_n hx hb dX2_own_1 rfl (lv_at hl 1 rfl) ?_
  refine z_put (fs' := [.int u1, .int u2, .int x, .ref ev]) C hz hS p0 zl2 mFX2_18 (by decide) rfl rfl rfl (Nat.le_of_ble_eq_true rfl) rfl dX2_own_2 (fun H locs f1 a2 k3 hz hS => ?_)
  refine lv_aload_n hx hb dX2_own_5 rfl (lv_at hl 0 rfl) ?_
  refine lv_bipush (v := 7) hx hb dX2_own_6 (by decide) ?_
  refine lv_iload_n hx hb dX2_own_8 rfl (lv_at hl 2 rfl) ?_
  have a4 : f1 ev = some (.inl (cy 0, 8, .inl g)) := (k3 _ (z_ne p1 p0 rfl)).trans p1
  refine z_callVi (As := [.int 7, .int y]) C hz hS hA hl (k_X2_inPart l D cy f1 h 7 y u1 u2 x ev g 7 a2 a4 (by decide) (Nat.le_of_ble_eq_true rfl)) zyX2_inPart mMX2_25 a2 zl2 rfl rfl (Nat.le_of_ble_eq_true rfl) ⟨Nat.le_of_ble_eq_true rfl, Nat.le_of_ble_eq_true rfl⟩ ⟨Nat.le_of_ble_eq_true rfl, Nat.le_of_ble_eq_true rfl⟩ dX2_own_9 (fun r f5 H locs h6 hz hS => ?_)
  obtain ⟨rfl, a7, a8, k9⟩ := h6
  exact z_iret C hr rfl hz hS ⟨rfl, a7, a8, (by
        intro b e hb n0 n1
        have hb0 : f1 b = some e := (k3 b n0).trans hb
        have hb1 : f5 b = some e := k9 b e hb0 n0 n1
        exact hb1)⟩ (Nat.le_of_ble_eq_true rfl) (Nat.le_of_ble_eq_true rfl) dX2_own_12
abbrev rmX2_inNoPart : Room := { frames := 1, cells := 0, slots := 0, locals := 22 }
set_option maxHeartbeats 4000000 in
set_option maxRecDepth 100000 in
theorem k_X2_inNoPart (l : Launch) (D : va_G) (cy : Nat → ClassId) (f : zM) (h : Nat) (x : Int32) (u1 : Int32) (u2 : Int32) (u3 : Int32) (ev : Nat) (g : Nat → Int32) (k : Nat) (p0 : f h = some (.inr (2, [.int u1, .int u2, .int u3, .ref ev]))) (p1 : f ev = some (.inl (cy 0, 8, .inl g))) (hk : x = nI k) (hk8 : k < 8) : zCi l D cy yX2_inNoPart cX2_inNoPart 2 (Option.some Jvm.ClassFile.FieldType.int) rmX2_inNoPart [.ref h, .int x] f (fun (r : Int32) (f1 : zM) => r = (-4) ∧ f1 h = some (.inr (2, [.int x, .int (-1), .int u3, .ref ev])) ∧ f1 ev = some (.inl (cy 0, 8, .inl (upd g k (g k + 1)))) ∧ (∀ (b : Nat) (e : va_E), f b = some e → b ≠ h → b ≠ ev → f1 b = some e)) := by
  intro sz
  refine z_body (by decide +kernel) (Nat.le_of_ble_eq_true rfl) ?_
  intro p e s m below meth c ls C hr hin hsz hz hl
  subst hsz
  have hx := C.1
  have hb := C.2.1
  have hA : ∀ q, s.heap.size ≤ q → zA f s.heap.size q := fun q h => Or.inr h
  have hS : va_S (zA f s.heap.size) s.heap s.heap [] := va_S.rf
  have hl : lv_has ls 2 [(0, .ref h), (1, .int x)] := hl
  refine lv_aload_n hx hb dX2_inNoPart_0 rfl (lv_at hl 0 rfl) ?_
  refine lv_iload_n hx hb dX2_inNoPart_1 rfl (lv_at hl 1 rfl) ?_
  refine lv_iconst (v := (-1)) hx hb dX2_inNoPart_2 (by decide) ?_
  refine z_callVi (As := [.int x, .int (-1)]) C hz hS hA hl (k_X2_inPart l D cy f h x (-1) u1 u2 u3 ev g k p0 p1 hk hk8) zyX2_inPart mMX2_25 p0 zl2 rfl rfl (Nat.le_of_ble_eq_true rfl) ⟨Nat.le_of_ble_eq_true rfl, Nat.le_of_ble_eq_true rfl⟩ ⟨Nat.le_of_ble_eq_true rfl, Nat.le_of_ble_eq_true rfl⟩ dX2_inNoPart_3 (fun r f1 H locs h2 hz hS => ?_)
  obtain ⟨rfl, a3, a4, k5⟩ := h2
  exact z_iret C hr rfl hz hS ⟨rfl, a3, a4, (by
        intro b e hb n0 n1
        have hb0 : f1 b = some e := k5 b e hb n0 n1
        exact hb0)⟩ (Nat.le_of_ble_eq_true rfl) (Nat.le_of_ble_eq_true rfl) dX2_inNoPart_6
theorem z_ixr {x : Int32} (h1 : ¬ x < 1) (h2 : ¬ 7 < x) : ∃ j : Nat, j < 8 ∧ x = nI j := by
  rw [Int32.lt_iff_toInt_lt] at h1 h2
  have e1 : (1 : Int32).toInt = 1 := by decide
  have e7 : (7 : Int32).toInt = 7 := by decide
  rw [e1] at h1
  rw [e7] at h2
  obtain ⟨j, hj, e⟩ := vp_in_of (x := x) (n := 8) (vp_in_iff.mpr ⟨by omega, by omega⟩) (by omega)
  exact ⟨j, hj, e⟩
abbrev rmX2_everOf : Room := { frames := 0, cells := 0, slots := 0, locals := 0 }
set_option maxHeartbeats 4000000 in
set_option maxRecDepth 100000 in
theorem k_X2_everOf (l : Launch) (D : va_G) (cy : Nat → ClassId) (f : zM) (h : Nat) (x : Int32) (u1 : Int32) (u2 : Int32) (u3 : Int32) (ev : Nat) (p0 : f h = some (.inr (2, [.int u1, .int u2, .int u3, .ref ev]))) (p1 : f ev = some (.inl (cy 0, 8, .inl (fun _ => 0))))  : zCi l D cy yX2_everOf cX2_everOf 2 (Option.some Jvm.ClassFile.FieldType.int) rmX2_everOf [.ref h, .int x] f (fun (r : Int32) (f1 : zM) => r = (if x < 1 then (-2) else if 7 < x then (-2) else 0) ∧ (∀ (b : Nat) (e : va_E), f b = some e → f1 b = some e)) := by
  intro sz
  refine z_body (by decide +kernel) (Nat.le_of_ble_eq_true rfl) ?_
  intro p e s m below meth c ls C hr hin hsz hz hl
  subst hsz
  have hx := C.1
  have hb := C.2.1
  have hA : ∀ q, s.heap.size ≤ q → zA f s.heap.size q := fun q h => Or.inr h
  have hS : va_S (zA f s.heap.size) s.heap s.heap [] := va_S.rf
  have hl : lv_has ls 2 [(0, .ref h), (1, .int x)] := hl
  refine lv_iload_n hx hb dX2_everOf_0 rfl (lv_at hl 1 rfl) ?_
  refine lv_iconst (v := 1) hx hb dX2_everOf_1 (by decide) ?_
  refine lv_icmp_lt (tgt := 20) hx hb dX2_everOf_2 (by decide) (fun c1 => ?_) (fun c1 => ?_)
  · refine lv_bipush (v := (-2)) hx hb dX2_everOf_20 (by decide) ?_
    exact z_iret C hr rfl hz hS ⟨(by simp [c1]), (fun b e hb => hb)⟩ (Nat.le_of_ble_eq_true rfl) (Nat.le_of_ble_eq_true rfl) dX2_everOf_22
  · refine lv_iload_n hx hb dX2_everOf_5 rfl (lv_at hl 1 rfl) ?_
    refine lv_bipush (v := 7) hx hb dX2_everOf_6 (by decide) ?_
    refine lv_icmp_gt (tgt := 20) hx hb dX2_everOf_8 (by decide) (fun c2 => ?_) (fun c2 => ?_)
    · refine lv_bipush (v := (-2)) hx hb dX2_everOf_20 (by decide) ?_
      exact z_iret C hr rfl hz hS ⟨(by simp [c1, c2]), (fun b e hb => hb)⟩ (Nat.le_of_ble_eq_true rfl) (Nat.le_of_ble_eq_true rfl) dX2_everOf_22
    · obtain ⟨j, hj, hxj⟩ := z_ixr c1 c2
      refine lv_aload_n hx hb dX2_everOf_11 rfl (lv_at hl 0 rfl) ?_
      refine z_get (v := .ref ev) C hz p0 zl2 mFX2_21 (by decide) rfl dX2_everOf_12 ?_
      refine lv_iload_n hx hb dX2_everOf_15 rfl (lv_at hl 1 rfl) ?_
      refine z_iald j C hz p1 hxj hj (by omega) dX2_everOf_16 ?_
      refine lv_topi (fun y3 e4 => ?_)
      obtain rfl : y3 = 0 := e4.trans rfl
      refine lv_goto (tgt := 22) hx hb dX2_everOf_17 (by decide) ?_
      exact z_iret C hr rfl hz hS ⟨(by simp [c1, c2]), (fun b e hb => hb)⟩ (Nat.le_of_ble_eq_true rfl) (Nat.le_of_ble_eq_true rfl) dX2_everOf_22
end
section
abbrev rmX5_init : Room := { frames := 1, cells := 2, slots := 120, locals := 12 }
set_option maxHeartbeats 4000000 in
set_option maxRecDepth 100000 in
theorem k_X5_init (l : Launch) (D : va_G) (cy : Nat → ClassId) (f : zM) (h : Nat) (p0 : f h = some (.inr (5, [.null, .null, .int 0])))  : zCv l D cy yX5_init cX5_init 1 none rmX5_init [.ref h] f (fun (f1 : zM) => ∃ (al : Nat) (ra : Nat), (al ≠ ra) ∧ f1 h = some (.inr (5, [.ref al, .ref ra, .int 0])) ∧ f1 al = some (.inl (cy 3, 60, .inr (.inr (.inr (.inr (fun _ => none)))))) ∧ f1 ra = some (.inl (cy 3, 60, .inr (.inr (.inr (.inr (fun _ => none)))))) ∧ (∀ (b : Nat) (e : va_E), f b = some e → b ≠ h → f1 b = some e)) := by
  intro sz
  refine z_body (by decide +kernel) (Nat.le_of_ble_eq_true rfl) ?_
  intro p e s m below meth c ls C hr hin hsz hz hl
  subst hsz
  have hx := C.1
  have hb := C.2.1
  have hA : ∀ q, s.heap.size ≤ q → zA f s.heap.size q := fun q h => Or.inr h
  have hS : va_S (zA f s.heap.size) s.heap s.heap [] := va_S.rf
  have hl : lv_has ls 1 [(0, .ref h)] := hl
  refine lv_aload_n hx hb dX5_init_0 rfl (lv_at hl 0 rfl) ?_
  refine z_objI C hl mMX5_3 (Nat.le_of_ble_eq_true rfl) (Nat.le_of_ble_eq_true rfl) dX5_init_1 ?_
  refine lv_aload_n hx hb dX5_init_4 rfl (lv_at hl 0 rfl) ?_
  refine lv_bipush (v := 60) hx hb dX5_init_5 (by decide) ?_
  refine z_newq (t0 := 3) (N' := 60) C hz hS hA mLX5_11 mAO_RX4 rfl (by decide) (Nat.le_of_ble_eq_true rfl) (Nat.le_of_ble_eq_true rfl) (Nat.le_of_ble_eq_true rfl) dX5_init_7 (fun q1 H f3 u2 a4 k5 hz hS => ?_)
  have a6 : f3 h = some (.inr (5, [.null, .null, .int 0])) := (k5 _ (z_nn u2 p0)).trans p0
  refine z_putF (fs' := [.ref q1, .null, .int 0]) C hz hS a6 zl5 mFX5_13 (by decide) rfl hin rfl rfl rfl (Nat.le_of_ble_eq_true rfl) rfl dX5_init_10 (fun H locs f7 a8 k9 hz hS => ?_)
  refine lv_aload_n hx hb dX5_init_13 rfl (lv_at hl 0 rfl) ?_
  refine lv_bipush (v := 60) hx hb dX5_init_14 (by decide) ?_
  have a10 : f7 q1 = some (.inl (cy 3, 60, .inr (.inr (.inr (.inr (fun _ => none)))))) := (k9 _ (Ne.symm (z_nn u2 p0))).trans a4
  refine z_newq (t0 := 3) (N' := 60) C hz hS hA mLX5_11 mAO_RX4 rfl (by decide) (Nat.le_of_ble_eq_true rfl) (Nat.le_of_ble_eq_true rfl) (Nat.le_of_ble_eq_true rfl) dX5_init_16 (fun q11 H f13 u12 a14 k15 hz hS => ?_)
  have a16 : f13 h = some (.inr (5, [.ref q1, .null, .int 0])) := (k15 _ (z_nn u12 a8)).trans a8
  refine z_putF (fs' := [.ref q1, .ref q11, .int 0]) C hz hS a16 zl5 mFX5_17 (by decide) rfl hin rfl rfl rfl (Nat.le_of_ble_eq_true rfl) rfl dX5_init_19 (fun H locs f17 a18 k19 hz hS => ?_)
  refine lv_aload_n hx hb dX5_init_22 rfl (lv_at hl 0 rfl) ?_
  refine lv_iconst (v := 0) hx hb dX5_init_23 (by decide) ?_
  refine z_put (fs' := [.ref q1, .ref q11, .int 0]) C hz hS a18 zl5 mFX5_20 (by decide) rfl rfl rfl (Nat.le_of_ble_eq_true rfl) rfl dX5_init_24 (fun H locs f20 a21 k22 hz hS => ?_)
  have a23 : f13 q1 = some (.inl (cy 3, 60, .inr (.inr (.inr (.inr (fun _ => none)))))) := (k15 _ (z_nn u12 a10)).trans a10
  have a24 : f17 q1 = some (.inl (cy 3, 60, .inr (.inr (.inr (.inr (fun _ => none)))))) := (k19 _ (Ne.symm (z_nn u2 p0))).trans a23
  have a25 : f20 q1 = some (.inl (cy 3, 60, .inr (.inr (.inr (.inr (fun _ => none)))))) := (k22 _ (Ne.symm (z_nn u2 p0))).trans a24
  have a26 : f17 q11 = some (.inl (cy 3, 60, .inr (.inr (.inr (.inr (fun _ => none)))))) := (k19 _ (Ne.symm (z_nn u12 a8))).trans a14
  have a27 : f20 q11 = some (.inl (cy 3, 60, .inr (.inr (.inr (.inr (fun _ => none)))))) := (k22 _ (Ne.symm (z_nn u12 a8))).trans a26
  exact z_vret C hr hz hS ⟨q1, q11, (z_nn u12 a10), a21, a25, a27, (by
        intro b e hb n0
        have nn0 : b ≠ q1 := z_nn u2 hb
        have hb0 : f3 b = some e := (k5 b nn0).trans hb
        have hb1 : f7 b = some e := (k9 b n0).trans hb0
        have nn2 : b ≠ q11 := z_nn u12 hb1
        have hb2 : f13 b = some e := (k15 b nn2).trans hb1
        have hb3 : f17 b = some e := (k19 b n0).trans hb2
        have hb4 : f20 b = some e := (k22 b n0).trans hb3
        exact hb4)⟩ (Nat.le_of_ble_eq_true rfl) (Nat.le_of_ble_eq_true rfl) dX5_init_27
abbrev rmX6_init : Room := { frames := 1, cells := 2, slots := 80, locals := 12 }
set_option maxHeartbeats 4000000 in
set_option maxRecDepth 100000 in
theorem k_X6_init (l : Launch) (D : va_G) (cy : Nat → ClassId) (f : zM) (h : Nat) (p0 : f h = some (.inr (6, [.null, .null, .int 0])))  : zCv l D cy yX6_init cX6_init 1 none rmX6_init [.ref h] f (fun (f1 : zM) => ∃ (kn : Nat) (vq : Nat), f1 h = some (.inr (6, [.ref kn, .ref vq, .int 0])) ∧ (∀ (b : Nat) (e : va_E), f b = some e → b ≠ h → f1 b = some e)) := by
  intro sz
  refine z_body (by decide +kernel) (Nat.le_of_ble_eq_true rfl) ?_
  intro p e s m below meth c ls C hr hin hsz hz hl
  subst hsz
  have hx := C.1
  have hb := C.2.1
  have hA : ∀ q, s.heap.size ≤ q → zA f s.heap.size q := fun q h => Or.inr h
  have hS : va_S (zA f s.heap.size) s.heap s.heap [] := va_S.rf
  have hl : lv_has ls 1 [(0, .ref h)] := hl
  refine lv_aload_n hx hb dX6_init_0 rfl (lv_at hl 0 rfl) ?_
  refine z_objI C hl mMX6_3 (Nat.le_of_ble_eq_true rfl) (Nat.le_of_ble_eq_true rfl) dX6_init_1 ?_
  refine lv_aload_n hx hb dX6_init_4 rfl (lv_at hl 0 rfl) ?_
  refine lv_bipush (v := 40) hx hb dX6_init_5 (by decide) ?_
  refine z_newa (atype := .int) (t0 := 0) (N' := 40) (x := (.inl (fun _ => 0))) C hz hS hA rfl mA_int rfl (fun _ => rfl) (by decide) (Nat.le_of_ble_eq_true rfl) (by decide) (Nat.le_of_ble_eq_true rfl) (Nat.le_of_ble_eq_true rfl) dX6_init_7 (fun q1 H f3 u2 a4 k5 hz hS => ?_)
  have a6 : f3 h = some (.inr (6, [.null, .null, .int 0])) := (k5 _ (z_nn u2 p0)).trans p0
  refine z_putF (fs' := [.ref q1, .null, .int 0]) C hz hS a6 zl6 mFX6_11 (by decide) rfl hin rfl rfl rfl (Nat.le_of_ble_eq_true rfl) rfl dX6_init_9 (fun H locs f7 a8 k9 hz hS => ?_)
  refine lv_aload_n hx hb dX6_init_12 rfl (lv_at hl 0 rfl) ?_
  refine lv_bipush (v := 40) hx hb dX6_init_13 (by decide) ?_
  refine z_newa (atype := .int) (t0 := 0) (N' := 40) (x := (.inl (fun _ => 0))) C hz hS hA rfl mA_int rfl (fun _ => rfl) (by decide) (Nat.le_of_ble_eq_true rfl) (by decide) (Nat.le_of_ble_eq_true rfl) (Nat.le_of_ble_eq_true rfl) dX6_init_15 (fun q10 H f12 u11 a13 k14 hz hS => ?_)
  have a15 : f12 h = some (.inr (6, [.ref q1, .null, .int 0])) := (k14 _ (z_nn u11 a8)).trans a8
  refine z_putF (fs' := [.ref q1, .ref q10, .int 0]) C hz hS a15 zl6 mFX6_15 (by decide) rfl hin rfl rfl rfl (Nat.le_of_ble_eq_true rfl) rfl dX6_init_17 (fun H locs f16 a17 k18 hz hS => ?_)
  refine lv_aload_n hx hb dX6_init_20 rfl (lv_at hl 0 rfl) ?_
  refine lv_iconst (v := 0) hx hb dX6_init_21 (by decide) ?_
  refine z_put (fs' := [.ref q1, .ref q10, .int 0]) C hz hS a17 zl6 mFX6_18 (by decide) rfl rfl rfl (Nat.le_of_ble_eq_true rfl) rfl dX6_init_22 (fun H locs f19 a20 k21 hz hS => ?_)
  exact z_vret C hr hz hS ⟨q1, q10, a20, (by
        intro b e hb n0
        have nn0 : b ≠ q1 := z_nn u2 hb
        have hb0 : f3 b = some e := (k5 b nn0).trans hb
        have hb1 : f7 b = some e := (k9 b n0).trans hb0
        have nn2 : b ≠ q10 := z_nn u11 hb1
        have hb2 : f12 b = some e := (k14 b nn2).trans hb1
        have hb3 : f16 b = some e := (k18 b n0).trans hb2
        have hb4 : f19 b = some e := (k21 b n0).trans hb3
        exact hb4)⟩ (Nat.le_of_ble_eq_true rfl) (Nat.le_of_ble_eq_true rfl) dX6_init_25
abbrev rmX1_init : Room := { frames := 1, cells := 1, slots := 60, locals := 12 }
set_option maxHeartbeats 4000000 in
set_option maxRecDepth 100000 in
theorem k_X1_init (l : Launch) (D : va_G) (cy : Nat → ClassId) (f : zM) (h : Nat) (p0 : f h = some (.inr (1, [.null, .int 0])))  : zCv l D cy yX1_init cX1_init 1 none rmX1_init [.ref h] f (fun (f1 : zM) => ∃ (mm : Nat), f1 h = some (.inr (1, [.ref mm, .int 0])) ∧ f1 mm = some (.inl (cy 0, 60, .inl (fun _ => 0))) ∧ (∀ (b : Nat) (e : va_E), f b = some e → b ≠ h → f1 b = some e)) := by
  intro sz
  refine z_body (by decide +kernel) (Nat.le_of_ble_eq_true rfl) ?_
  intro p e s m below meth c ls C hr hin hsz hz hl
  subst hsz
  have hx := C.1
  have hb := C.2.1
  have hA : ∀ q, s.heap.size ≤ q → zA f s.heap.size q := fun q h => Or.inr h
  have hS : va_S (zA f s.heap.size) s.heap s.heap [] := va_S.rf
  have hl : lv_has ls 1 [(0, .ref h)] := hl
  refine lv_aload_n hx hb dX1_init_0 rfl (lv_at hl 0 rfl) ?_
  refine z_objI C hl mMX1_3 (Nat.le_of_ble_eq_true rfl) (Nat.le_of_ble_eq_true rfl) dX1_init_1 ?_
  refine lv_aload_n hx hb dX1_init_4 rfl (lv_at hl 0 rfl) ?_
  refine lv_bipush (v := 60) hx hb dX1_init_5 (by decide) ?_
  refine z_newa (atype := .int) (t0 := 0) (N' := 60) (x := (.inl (fun _ => 0))) C hz hS hA rfl mA_int rfl (fun _ => rfl) (by decide) (Nat.le_of_ble_eq_true rfl) (by decide) (Nat.le_of_ble_eq_true rfl) (Nat.le_of_ble_eq_true rfl) dX1_init_7 (fun q1 H f3 u2 a4 k5 hz hS => ?_)
  have a6 : f3 h = some (.inr (1, [.null, .int 0])) := (k5 _ (z_nn u2 p0)).trans p0
  refine z_putF (fs' := [.ref q1, .int 0]) C hz hS a6 zl1 mFX1_9 (by decide) rfl hin rfl rfl rfl (Nat.le_of_ble_eq_true rfl) rfl dX1_init_9 (fun H locs f7 a8 k9 hz hS => ?_)
  refine lv_aload_n hx hb dX1_init_12 rfl (lv_at hl 0 rfl) ?_
  refine lv_iconst (v := 0) hx hb dX1_init_13 (by decide) ?_
  refine z_put (fs' := [.ref q1, .int 0]) C hz hS a8 zl1 mFX1_15 (by decide) rfl rfl rfl (Nat.le_of_ble_eq_true rfl) rfl dX1_init_14 (fun H locs f10 a11 k12 hz hS => ?_)
  have a13 : f7 q1 = some (.inl (cy 0, 60, .inl (fun _ => 0))) := (k9 _ (Ne.symm (z_nn u2 p0))).trans a4
  have a14 : f10 q1 = some (.inl (cy 0, 60, .inl (fun _ => 0))) := (k12 _ (Ne.symm (z_nn u2 p0))).trans a13
  exact z_vret C hr hz hS ⟨q1, a11, a14, (by
        intro b e hb n0
        have nn0 : b ≠ q1 := z_nn u2 hb
        have hb0 : f3 b = some e := (k5 b nn0).trans hb
        have hb1 : f7 b = some e := (k9 b n0).trans hb0
        have hb2 : f10 b = some e := (k12 b n0).trans hb1
        exact hb2)⟩ (Nat.le_of_ble_eq_true rfl) (Nat.le_of_ble_eq_true rfl) dX1_init_17
abbrev rmX4_init : Room := { frames := 1, cells := 0, slots := 0, locals := 12 }
set_option maxHeartbeats 4000000 in
set_option maxRecDepth 100000 in
theorem k_X4_init (l : Launch) (D : va_G) (cy : Nat → ClassId) (f : zM) (h : Nat) (kd : Int32) (pa : Nat) (w : Int64) (p0 : f h = some (.inr (4, [.int 0, .null, .long 0, .int 0, .int 0, .int 0, .int 0])))  : zCv l D cy yX4_init cX4_init 5 none rmX4_init [.ref h, .int kd, .ref pa, .long w] f (fun (f1 : zM) => f1 h = some (.inr (4, [.int kd, .ref pa, .long w, .int 0, .int (-1), .int 0, .int 0])) ∧ (∀ (b : Nat) (e : va_E), f b = some e → b ≠ h → f1 b = some e)) := by
  intro sz
  refine z_body (by decide +kernel) (Nat.le_of_ble_eq_true rfl) ?_
  intro p e s m below meth c ls C hr hin hsz hz hl
  subst hsz
  have hx := C.1
  have hb := C.2.1
  have hA : ∀ q, s.heap.size ≤ q → zA f s.heap.size q := fun q h => Or.inr h
  have hS : va_S (zA f s.heap.size) s.heap s.heap [] := va_S.rf
  have hl : lv_has ls 5 [(0, .ref h), (1, .int kd), (2, .ref pa), (3, .long w)] := hl
  refine lv_aload_n hx hb dX4_init_0 rfl (lv_at hl 0 rfl) ?_
  refine z_objI C hl mMX4_3 (Nat.le_of_ble_eq_true rfl) (Nat.le_of_ble_eq_true rfl) dX4_init_1 ?_
  refine lv_aload_n hx hb dX4_init_4 rfl (lv_at hl 0 rfl) ?_
  refine lv_iconst (v := 0) hx hb dX4_init_5 (by decide) ?_
  refine z_put (fs' := [.int 0, .null, .long 0, .int 0, .int 0, .int 0, .int 0]) C hz hS p0 zl4 mFX4_9 (by decide) rfl rfl rfl (Nat.le_of_ble_eq_true rfl) rfl dX4_init_6 (fun H locs f1 a2 k3 hz hS => ?_)
  refine lv_aload_n hx hb dX4_init_9 rfl (lv_at hl 0 rfl) ?_
  refine lv_iconst (v := (-1)) hx hb dX4_init_10 (by decide) ?_
  refine z_put (fs' := [.int 0, .null, .long 0, .int 0, .int (-1), .int 0, .int 0]) C hz hS a2 zl4 mFX4_15 (by decide) rfl rfl rfl (Nat.le_of_ble_eq_true rfl) rfl dX4_init_11 (fun H locs f4 a5 k6 hz hS => ?_)
  refine lv_aload_n hx hb dX4_init_14 rfl (lv_at hl 0 rfl) ?_
  refine lv_iconst (v := 0) hx hb dX4_init_15 (by decide) ?_
  refine z_put (fs' := [.int 0, .null, .long 0, .int 0, .int (-1), .int 0, .int 0]) C hz hS a5 zl4 mFX4_19 (by decide) rfl rfl rfl (Nat.le_of_ble_eq_true rfl) rfl dX4_init_16 (fun H locs f7 a8 k9 hz hS => ?_)
  refine lv_aload_n hx hb dX4_init_19 rfl (lv_at hl 0 rfl) ?_
  refine lv_iconst (v := 0) hx hb dX4_init_20 (by decide) ?_
  refine z_put (fs' := [.int 0, .null, .long 0, .int 0, .int (-1), .int 0, .int 0]) C hz hS a8 zl4 mFX4_22 (by decide) rfl rfl rfl (Nat.le_of_ble_eq_true rfl) rfl dX4_init_21 (fun H locs f10 a11 k12 hz hS => ?_)
  refine lv_aload_n hx hb dX4_init_24 rfl (lv_at hl 0 rfl) ?_
  refine lv_iload_n hx hb dX4_init_25 rfl (lv_at hl 1 rfl) ?_
  refine z_putF (fs' := [.int kd, .null, .long 0, .int 0, .int (-1), .int 0, .int 0]) C hz hS a11 zl4 mFX4_25 (by decide) rfl hin rfl rfl rfl (Nat.le_of_ble_eq_true rfl) rfl dX4_init_26 (fun H locs f13 a14 k15 hz hS => ?_)
  refine lv_aload_n hx hb dX4_init_29 rfl (lv_at hl 0 rfl) ?_
  refine lv_aload_n hx hb dX4_init_30 rfl (lv_at hl 2 rfl) ?_
  refine z_putF (fs' := [.int kd, .ref pa, .long 0, .int 0, .int (-1), .int 0, .int 0]) C hz hS a14 zl4 mFX4_28 (by decide) rfl hin rfl rfl rfl (Nat.le_of_ble_eq_true rfl) rfl dX4_init_31 (fun H locs f16 a17 k18 hz hS => ?_)
  refine lv_aload_n hx hb dX4_init_34 rfl (lv_at hl 0 rfl) ?_
  refine lv_lload_n hx hb dX4_init_35 rfl (lv_at hl 3 rfl) ?_
  refine z_put (fs' := [.int kd, .ref pa, .long w, .int 0, .int (-1), .int 0, .int 0]) C hz hS a17 zl4 mFX4_32 (by decide) rfl rfl rfl (Nat.le_of_ble_eq_true rfl) rfl dX4_init_36 (fun H locs f19 a20 k21 hz hS => ?_)
  exact z_vret C hr hz hS ⟨a20, (by
        intro b e hb n0
        have hb0 : f1 b = some e := (k3 b n0).trans hb
        have hb1 : f4 b = some e := (k6 b n0).trans hb0
        have hb2 : f7 b = some e := (k9 b n0).trans hb1
        have hb3 : f10 b = some e := (k12 b n0).trans hb2
        have hb4 : f13 b = some e := (k15 b n0).trans hb3
        have hb5 : f16 b = some e := (k18 b n0).trans hb4
        have hb6 : f19 b = some e := (k21 b n0).trans hb5
        exact hb6)⟩ (Nat.le_of_ble_eq_true rfl) (Nat.le_of_ble_eq_true rfl) dX4_init_39
abbrev rmX0_init : Room := { frames := 1, cells := 0, slots := 0, locals := 12 }
set_option maxHeartbeats 4000000 in
set_option maxRecDepth 100000 in
theorem k_X0_init (l : Launch) (D : va_G) (cy : Nat → ClassId) (f : zM) (h : Nat) (x : Int32) (y : Int32) (p0 : f h = some (.inr (0, [.int 0, .int 0])))  : zCv l D cy yX0_init cX0_init 3 none rmX0_init [.ref h, .int x, .int y] f (fun (f1 : zM) => f1 h = some (.inr (0, [.int x, .int y])) ∧ (∀ (b : Nat) (e : va_E), f b = some e → b ≠ h → f1 b = some e)) := by
  intro sz
  refine z_body (by decide +kernel) (Nat.le_of_ble_eq_true rfl) ?_
  intro p e s m below meth c ls C hr hin hsz hz hl
  subst hsz
  have hx := C.1
  have hb := C.2.1
  have hA : ∀ q, s.heap.size ≤ q → zA f s.heap.size q := fun q h => Or.inr h
  have hS : va_S (zA f s.heap.size) s.heap s.heap [] := va_S.rf
  have hl : lv_has ls 3 [(0, .ref h), (1, .int x), (2, .int y)] := hl
  refine lv_aload_n hx hb dX0_init_0 rfl (lv_at hl 0 rfl) ?_
  refine z_objI C hl mMX0_1 (Nat.le_of_ble_eq_true rfl) (Nat.le_of_ble_eq_true rfl) dX0_init_1 ?_
  refine lv_aload_n hx hb dX0_init_4 rfl (lv_at hl 0 rfl) ?_
  refine lv_iload_n hx hb dX0_init_5 rfl (lv_at hl 1 rfl) ?_
  refine z_putF (fs' := [.int x, .int 0]) C hz hS p0 zl0 mFX0_7 (by decide) rfl hin rfl rfl rfl (Nat.le_of_ble_eq_true rfl) rfl dX0_init_6 (fun H locs f1 a2 k3 hz hS => ?_)
  refine lv_aload_n hx hb dX0_init_9 rfl (lv_at hl 0 rfl) ?_
  refine lv_iload_n hx hb dX0_init_10 rfl (lv_at hl 2 rfl) ?_
  refine z_putF (fs' := [.int x, .int y]) C hz hS a2 zl0 mFX0_13 (by decide) rfl hin rfl rfl rfl (Nat.le_of_ble_eq_true rfl) rfl dX0_init_11 (fun H locs f4 a5 k6 hz hS => ?_)
  exact z_vret C hr hz hS ⟨a5, (by
        intro b e hb n0
        have hb0 : f1 b = some e := (k3 b n0).trans hb
        have hb1 : f4 b = some e := (k6 b n0).trans hb0
        exact hb1)⟩ (Nat.le_of_ble_eq_true rfl) (Nat.le_of_ble_eq_true rfl) dX0_init_14
abbrev rmX1_append : Room := { frames := 0, cells := 0, slots := 0, locals := 0 }
set_option maxHeartbeats 4000000 in
set_option maxRecDepth 100000 in
theorem k_X1_append (l : Launch) (D : va_G) (cy : Nat → ClassId) (f : zM) (h : Nat) (x : Int32) (mm : Nat) (k : Nat) (g : Nat → Int32) (p0 : f h = some (.inr (1, [.ref mm, .int (nI k)]))) (p1 : f mm = some (.inl (cy 0, 60, .inl g))) (hk : k < 60) : zCv l D cy yX1_append cX1_append 2 none rmX1_append [.ref h, .int x] f (fun (f1 : zM) => f1 h = some (.inr (1, [.ref mm, .int (nI (k + 1))])) ∧ f1 mm = some (.inl (cy 0, 60, .inl (upd g k x))) ∧ (∀ (b : Nat) (e : va_E), f b = some e → b ≠ h → b ≠ mm → f1 b = some e)) := by
  intro sz
  refine z_body (by decide +kernel) (Nat.le_of_ble_eq_true rfl) ?_
  intro p e s m below meth c ls C hr hin hsz hz hl
  subst hsz
  have hx := C.1
  have hb := C.2.1
  have hA : ∀ q, s.heap.size ≤ q → zA f s.heap.size q := fun q h => Or.inr h
  have hS : va_S (zA f s.heap.size) s.heap s.heap [] := va_S.rf
  have hl : lv_has ls 2 [(0, .ref h), (1, .int x)] := hl
  refine lv_aload_n hx hb dX1_append_0 rfl (lv_at hl 0 rfl) ?_
  refine z_get (v := .ref mm) C hz p0 zl1 mFX1_9 (by decide) rfl dX1_append_1 ?_
  refine lv_aload_n hx hb dX1_append_4 rfl (lv_at hl 0 rfl) ?_
  refine z_get (v := .int (nI k)) C hz p0 zl1 mFX1_15 (by decide) rfl dX1_append_5 ?_
  refine lv_iload_n hx hb dX1_append_8 rfl (lv_at hl 1 rfl) ?_
  refine z_iast k C hz hS p1 rfl (by omega) (by omega) dX1_append_9 (fun H locs f1 a2 k3 hz hS => ?_)
  refine lv_aload_n hx hb dX1_append_10 rfl (lv_at hl 0 rfl) ?_
  refine lv_dup hx hb dX1_append_11 rfl ?_
  have a4 : f1 h = some (.inr (1, [.ref mm, .int (nI k)])) := (k3 _ (z_ne p0 p1 rfl)).trans p0
  refine z_get (v := .int (nI k)) C hz a4 zl1 mFX1_15 (by decide) rfl dX1_append_12 ?_
  refine lv_iconst (v := 1) hx hb dX1_append_15 (by decide) ?_
  refine lv_iadd hx hb dX1_append_16 ?_
  refine lv_topi (fun y5 e6 => ?_)
  obtain rfl : y5 = nI (k + 1) := e6.trans (nI_1 k)
  refine z_put (fs' := [.ref mm, .int (nI (k + 1))]) C hz hS a4 zl1 mFX1_15 (by decide) rfl rfl rfl (Nat.le_of_ble_eq_true rfl) rfl dX1_append_17 (fun H locs f7 a8 k9 hz hS => ?_)
  have a10 : f7 mm = some (.inl (cy 0, 60, .inl (upd g k x))) := (k9 _ (z_ne a2 a4 rfl)).trans a2
  exact z_vret C hr hz hS ⟨a8, a10, (by
        intro b e hb n0 n1
        have hb0 : f1 b = some e := (k3 b n1).trans hb
        have hb1 : f7 b = some e := (k9 b n0).trans hb0
        exact hb1)⟩ (Nat.le_of_ble_eq_true rfl) (Nat.le_of_ble_eq_true rfl) dX1_append_20
abbrev rmX5_isFull : Room := { frames := 0, cells := 0, slots := 0, locals := 0 }
set_option maxHeartbeats 4000000 in
set_option maxRecDepth 100000 in
theorem k_X5_isFull (l : Launch) (D : va_G) (cy : Nat → ClassId) (f : zM) (h : Nat) (al : Nat) (ra : Nat) (p0 : f h = some (.inr (5, [.ref al, .ref ra, .int 0])))  : zCi l D cy yX5_isFull cX5_isFull 1 (Option.some Jvm.ClassFile.FieldType.boolean) rmX5_isFull [.ref h] f (fun (r : Int32) (f1 : zM) => r = 0 ∧ (∀ (b : Nat) (e : va_E), f b = some e → f1 b = some e)) := by
  intro sz
  refine z_body (by decide +kernel) (Nat.le_of_ble_eq_true rfl) ?_
  intro p e s m below meth c ls C hr hin hsz hz hl
  subst hsz
  have hx := C.1
  have hb := C.2.1
  have hA : ∀ q, s.heap.size ≤ q → zA f s.heap.size q := fun q h => Or.inr h
  have hS : va_S (zA f s.heap.size) s.heap s.heap [] := va_S.rf
  have hl : lv_has ls 1 [(0, .ref h)] := hl
  refine lv_aload_n hx hb dX5_isFull_0 rfl (lv_at hl 0 rfl) ?_
  refine z_get (v := .int 0) C hz p0 zl5 mFX5_20 (by decide) rfl dX5_isFull_1 ?_
  refine lv_bipush (v := 60) hx hb dX5_isFull_4 (by decide) ?_
  refine lv_icmp_lt (tgt := 13) hx hb dX5_isFull_6 (by decide) (fun c1 => ?_) (fun c1 => ?_)
  rotate_left
  · exact absurd c1 (by decide)
  refine lv_iconst (v := 0) hx hb dX5_isFull_13 (by decide) ?_
  exact z_iret C hr (by decide) hz hS ⟨rfl, (fun b e hb => hb)⟩ (Nat.le_of_ble_eq_true rfl) (Nat.le_of_ble_eq_true rfl) dX5_isFull_14
abbrev rmX5_find : Room := { frames := 0, cells := 0, slots := 0, locals := 0 }
set_option maxHeartbeats 4000000 in
set_option maxRecDepth 100000 in
theorem k_X5_find (l : Launch) (D : va_G) (cy : Nat → ClassId) (f : zM) (h : Nat) (v : Int64) (al : Nat) (ra : Nat) (p0 : f h = some (.inr (5, [.ref al, .ref ra, .int 0])))  : zCq l D cy yX5_find cX5_find 3 (Option.some (Jvm.ClassFile.FieldType.object "KindRows$Figure")) rmX5_find [.ref h, .long v] f (fun (r : Option Nat) (f1 : zM) => r = none ∧ (∀ (b : Nat) (e : va_E), f b = some e → f1 b = some e)) := by
  intro sz
  refine z_body (by decide +kernel) (Nat.le_of_ble_eq_true rfl) ?_
  intro p e s m below meth c ls C hr hin hsz hz hl
  subst hsz
  have hx := C.1
  have hb := C.2.1
  have hA : ∀ q, s.heap.size ≤ q → zA f s.heap.size q := fun q h => Or.inr h
  have hS : va_S (zA f s.heap.size) s.heap s.heap [] := va_S.rf
  have hl : lv_has ls 3 [(0, .ref h), (1, .long v)] := hl
  refine lv_lload_n hx hb dX5_find_0 rfl (lv_at hl 1 rfl) ?_
  refine lv_lconst (v := 0) hx hb dX5_find_1 (by decide) ?_
  refine W.lcmp hx hb dX5_find_2 ?_
  refine lv_if_lt (tgt := 26) hx hb dX5_find_3 (by decide) (fun c1 => ?_) (fun c1 => ?_)
  · refine lv_null hx hb dX5_find_26 ?_
    exact z_aret (r := none) C hr (Or.inl ⟨_, rfl⟩) rfl hz hS ⟨rfl, (fun b e hb => hb)⟩ (Nat.le_of_ble_eq_true rfl) (Nat.le_of_ble_eq_true rfl) dX5_find_27
  · refine lv_lload_n hx hb dX5_find_6 rfl (lv_at hl 1 rfl) ?_
    refine lv_aload_n hx hb dX5_find_7 rfl (lv_at hl 0 rfl) ?_
    refine z_get (v := .int 0) C hz p0 zl5 mFX5_20 (by decide) rfl dX5_find_8 ?_
    refine lv_i2l (v := (0 : Int32).toInt64) hx hb dX5_find_11 rfl ?_
    refine W.lcmp hx hb dX5_find_12 ?_
    refine lv_if_ge (tgt := 26) hx hb dX5_find_13 (by decide) (fun c2 => ?_) (fun c2 => ?_)
    rotate_left
    · exact absurd ((lg_cmp_ge _ _).mpr (show (0:Int64) ≤ v from Int64.not_lt.mp (fun h => c1 ((lg_cmp_lt _ _).mpr h)))) c2
    refine lv_null hx hb dX5_find_26 ?_
    exact z_aret (r := none) C hr (Or.inl ⟨_, rfl⟩) rfl hz hS ⟨rfl, (fun b e hb => hb)⟩ (Nat.le_of_ble_eq_true rfl) (Nat.le_of_ble_eq_true rfl) dX5_find_27
abbrev rmX5_hasOrNone_A : Room := { frames := 0, cells := 0, slots := 0, locals := 0 }
set_option maxHeartbeats 4000000 in
set_option maxRecDepth 100000 in
theorem k_X5_hasOrNone_A (l : Launch) (D : va_G) (cy : Nat → ClassId) (f : zM) (h : Nat) (x : Int32) (al : Nat) (ra : Nat) (p0 : f h = some (.inr (5, [.ref al, .ref ra, .int 0]))) (hv : x = (-1)) : zCi l D cy yX5_hasOrNone cX5_hasOrNone 2 (Option.some Jvm.ClassFile.FieldType.boolean) rmX5_hasOrNone_A [.ref h, .int x] f (fun (r : Int32) (f1 : zM) => r = 1 ∧ (∀ (b : Nat) (e : va_E), f b = some e → f1 b = some e)) := by
  intro sz
  refine z_body (by decide +kernel) (Nat.le_of_ble_eq_true rfl) ?_
  intro p e s m below meth c ls C hr hin hsz hz hl
  subst hsz
  have hx := C.1
  have hb := C.2.1
  have hA : ∀ q, s.heap.size ≤ q → zA f s.heap.size q := fun q h => Or.inr h
  have hS : va_S (zA f s.heap.size) s.heap s.heap [] := va_S.rf
  have hl : lv_has ls 2 [(0, .ref h), (1, .int x)] := hl
  refine lv_iload_n hx hb dX5_hasOrNone_0 rfl (lv_at hl 1 rfl) ?_
  refine lv_iconst (v := (-1)) hx hb dX5_hasOrNone_1 (by decide) ?_
  refine lv_icmp_eq (tgt := 14) hx hb dX5_hasOrNone_2 (by decide) (fun c1 => ?_) (fun c1 => ?_)
  rotate_left
  · exact absurd hv c1
  refine lv_iconst (v := 1) hx hb dX5_hasOrNone_14 (by decide) ?_
  refine lv_goto (tgt := 19) hx hb dX5_hasOrNone_15 (by decide) ?_
  exact z_iret C hr (by decide) hz hS ⟨rfl, (fun b e hb => hb)⟩ (Nat.le_of_ble_eq_true rfl) (Nat.le_of_ble_eq_true rfl) dX5_hasOrNone_19
abbrev rmX5_hasOrNone_B : Room := { frames := 1, cells := 0, slots := 0, locals := 22 }
set_option maxHeartbeats 4000000 in
set_option maxRecDepth 100000 in
theorem k_X5_hasOrNone_B (l : Launch) (D : va_G) (cy : Nat → ClassId) (f : zM) (h : Nat) (x : Int32) (al : Nat) (ra : Nat) (p0 : f h = some (.inr (5, [.ref al, .ref ra, .int 0]))) (hv : ¬ x = (-1)) : zCi l D cy yX5_hasOrNone cX5_hasOrNone 2 (Option.some Jvm.ClassFile.FieldType.boolean) rmX5_hasOrNone_B [.ref h, .int x] f (fun (r : Int32) (f1 : zM) => r = 0 ∧ (∀ (b : Nat) (e : va_E), f b = some e → f1 b = some e)) := by
  intro sz
  refine z_body (by decide +kernel) (Nat.le_of_ble_eq_true rfl) ?_
  intro p e s m below meth c ls C hr hin hsz hz hl
  subst hsz
  have hx := C.1
  have hb := C.2.1
  have hA : ∀ q, s.heap.size ≤ q → zA f s.heap.size q := fun q h => Or.inr h
  have hS : va_S (zA f s.heap.size) s.heap s.heap [] := va_S.rf
  have hl : lv_has ls 2 [(0, .ref h), (1, .int x)] := hl
  refine lv_iload_n hx hb dX5_hasOrNone_0 rfl (lv_at hl 1 rfl) ?_
  refine lv_iconst (v := (-1)) hx hb dX5_hasOrNone_1 (by decide) ?_
  refine lv_icmp_eq (tgt := 14) hx hb dX5_hasOrNone_2 (by decide) (fun c1 => ?_) (fun c1 => ?_)
  · exact absurd c1 hv
  refine lv_aload_n hx hb dX5_hasOrNone_5 rfl (lv_at hl 0 rfl) ?_
  refine lv_iload_n hx hb dX5_hasOrNone_6 rfl (lv_at hl 1 rfl) ?_
  refine lv_i2l (v := x.toInt64) hx hb dX5_hasOrNone_7 rfl ?_
  refine z_callVq (As := [.long x.toInt64]) C hz hS hA hl (k_X5_find l D cy f h x.toInt64 al ra p0 ) zyX5_find mMX5_24 p0 zl5 rfl rfl (Nat.le_of_ble_eq_true rfl) ⟨Nat.le_of_ble_eq_true rfl, Nat.le_of_ble_eq_true rfl⟩ ⟨Nat.le_of_ble_eq_true rfl, Nat.le_of_ble_eq_true rfl⟩ dX5_hasOrNone_8 (fun r f2 H locs h3 hz hS => ?_)
  obtain ⟨rfl, k4⟩ := h3
  refine W.eq (g2 := F0 m 11 ls [.null]) rfl ?_
  refine lv_ifnullN (tgt := 18) hx hb dX5_hasOrNone_11 (by decide) ?_
  refine lv_iconst (v := 0) hx hb dX5_hasOrNone_18 (by decide) ?_
  exact z_iret C hr (by decide) hz hS ⟨rfl, (by
        intro b e hb 
        have hb0 : f2 b = some e := k4 b e hb 
        exact hb0)⟩ (Nat.le_of_ble_eq_true rfl) (Nat.le_of_ble_eq_true rfl) dX5_hasOrNone_19
abbrev rmX5_numberRanked : Room := { frames := 0, cells := 0, slots := 0, locals := 0 }
set_option maxHeartbeats 4000000 in
set_option maxRecDepth 100000 in
theorem k_X5_numberRanked (l : Launch) (D : va_G) (cy : Nat → ClassId) (f : zM) (h : Nat) (x : Int32) (al : Nat) (ra : Nat) (p0 : f h = some (.inr (5, [.ref al, .ref ra, .int 0]))) (hx0 : 0 ≤ x) : zCi l D cy yX5_numberRanked cX5_numberRanked 2 (Option.some Jvm.ClassFile.FieldType.int) rmX5_numberRanked [.ref h, .int x] f (fun (r : Int32) (f1 : zM) => r = (-1) ∧ (∀ (b : Nat) (e : va_E), f b = some e → f1 b = some e)) := by
  intro sz
  refine z_body (by decide +kernel) (Nat.le_of_ble_eq_true rfl) ?_
  intro p e s m below meth c ls C hr hin hsz hz hl
  subst hsz
  have hx := C.1
  have hb := C.2.1
  have hA : ∀ q, s.heap.size ≤ q → zA f s.heap.size q := fun q h => Or.inr h
  have hS : va_S (zA f s.heap.size) s.heap s.heap [] := va_S.rf
  have hl : lv_has ls 2 [(0, .ref h), (1, .int x)] := hl
  refine lv_iload_n hx hb dX5_numberRanked_0 rfl (lv_at hl 1 rfl) ?_
  refine lv_if_lt (tgt := 24) hx hb dX5_numberRanked_1 (by decide) (fun c1 => ?_) (fun c1 => ?_)
  · exact absurd c1 (Int32.not_lt.mpr hx0)
  refine lv_iload_n hx hb dX5_numberRanked_4 rfl (lv_at hl 1 rfl) ?_
  refine lv_aload_n hx hb dX5_numberRanked_5 rfl (lv_at hl 0 rfl) ?_
  refine z_get (v := .int 0) C hz p0 zl5 mFX5_20 (by decide) rfl dX5_numberRanked_6 ?_
  refine lv_icmp_ge (tgt := 24) hx hb dX5_numberRanked_9 (by decide) (fun c2 => ?_) (fun c2 => ?_)
  rotate_left
  · exact absurd hx0 c2
  refine lv_iconst (v := (-1)) hx hb dX5_numberRanked_24 (by decide) ?_
  exact z_iret C hr rfl hz hS ⟨rfl, (fun b e hb => hb)⟩ (Nat.le_of_ble_eq_true rfl) (Nat.le_of_ble_eq_true rfl) dX5_numberRanked_25
abbrev rmX5_hashOf : Room := { frames := 0, cells := 0, slots := 0, locals := 0 }
set_option maxHeartbeats 4000000 in
set_option maxRecDepth 100000 in
theorem k_X5_hashOf (l : Launch) (D : va_G) (cy : Nat → ClassId) (f : zM) (h : Nat) (q : Nat) (kd : Int32) (pa : Nat) (w : Int64) (wa : Int32) (nu : Int32) (ha : Int32) (be : Int32) (t : Nat) (gp : Nat → Int64) (p0 : f q = some (.inr (4, [.int kd, .ref pa, .long w, .int wa, .int nu, .int ha, .int be]))) (p1 : f pa = some (.inl (cy 1, t, .inr (.inl gp)))) (hk4 : ¬ kd = 4) (ht : t < 2 ^ 31) : zCi l D cy yX5_hashOf cX5_hashOf 8 (Option.some Jvm.ClassFile.FieldType.int) rmX5_hashOf [.ref h, .ref q] f (fun (r : Int32) (f1 : zM) => (∀ (b : Nat) (e : va_E), f b = some e → f1 b = some e)) := by
  intro sz
  refine z_body (by decide +kernel) (Nat.le_of_ble_eq_true rfl) ?_
  intro p e s m below meth c ls C hr hin hsz hz hl
  subst hsz
  have hx := C.1
  have hb := C.2.1
  have hA : ∀ q, s.heap.size ≤ q → zA f s.heap.size q := fun q h => Or.inr h
  have hS : va_S (zA f s.heap.size) s.heap s.heap [] := va_S.rf
  have hl : lv_has ls 8 [(0, .ref h), (1, .ref q)] := hl
  refine lv_aload_n hx hb dX5_hashOf_0 rfl (lv_at hl 1 rfl) ?_
  refine z_getN (v := .int kd) C hz p0 zl4 mFNX5_42 (by decide) rfl dX5_hashOf_1 ?_
  refine lv_bipush (v := 6) hx hb dX5_hashOf_4 (by decide) ?_
  refine lv_icmp_ne (tgt := 22) hx hb dX5_hashOf_6 (by decide) (fun c1 => ?_) (fun c1 => ?_)
  · refine lv_aload_n hx hb dX5_hashOf_22 rfl (lv_at hl 1 rfl) ?_
    refine z_getN (v := .int kd) C hz p0 zl4 mFNX5_42 (by decide) rfl dX5_hashOf_23 ?_
    refine lv_istore_n (lv' := [(2, .int kd), (0, .ref h), (1, .ref q)]) hx hb dX5_hashOf_26 rfl hl (by decide) rfl (fun ls hl => ?_)
    refine lv_aload_n hx hb dX5_hashOf_27 rfl (lv_at hl 2 rfl) ?_
    refine z_getN (v := .ref pa) C hz p0 zl4 mFNX5_45 (by decide) rfl dX5_hashOf_28 ?_
    refine lv_astore_n (lv' := [(3, .ref pa), (2, .int kd), (0, .ref h), (1, .ref q)]) hx hb dX5_hashOf_31 rfl hl (by decide) rfl (fun ls hl => ?_)
    refine lv_aload_n hx hb dX5_hashOf_32 rfl (lv_at hl 0 rfl) ?_
    refine z_alen (v := nI t) 1 C hz p1 rfl rfl dX5_hashOf_33 ?_
    refine lv_istore (lv' := [(4, .int (nI t)), (3, .ref pa), (2, .int kd), (0, .ref h), (1, .ref q)]) hx hb dX5_hashOf_34 hl (by decide) rfl (fun ls hl => ?_)
    refine lv_iconst (v := 0) hx hb dX5_hashOf_36 (by decide) ?_
    refine lv_istore (lv' := [(5, .int 0), (4, .int (nI t)), (3, .ref pa), (2, .int kd), (0, .ref h), (1, .ref q)]) hx hb dX5_hashOf_37 hl (by decide) rfl (fun ls hl => ?_)
    have lp2 : ∀ (n : Nat) (hv : Int32) (i : Nat) (fL : zM) (H : Heap) (locs : List Loc) (ls : Array Slot), (t - i) < n → (i ≤ t) → fL q = some (.inr (4, [.int kd, .ref pa, .long w, .int wa, .int nu, .int ha, .int be])) → fL pa = some (.inl (cy 1, t, .inr (.inl gp))) → (∀ (b : Nat) (e : va_E), f b = some e → fL b = some e) → zH D (zA f s.heap.size) fL H → va_S (zA f s.heap.size) s.heap H locs → lv_has ls 8 [(0, .ref h), (1, .ref q), (2, .int hv), (3, .ref pa), (4, .int (nI t)), (5, .int (nI i))] → W p l e rmX5_hashOf s m ([.ref h, .ref q] : List Value).toArray below meth c H locs 0 0 (MQ below (va_Qi (fun (r : Int32) (f1 : zM) => (∀ (b : Nat) (e : va_E), f b = some e → f1 b = some e)) (zB D f s.heap.size) (zA f s.heap.size)) ([.ref h, .ref q] : List Value).toArray s rmX5_hashOf.cells rmX5_hashOf.slots (zA f s.heap.size)) (F0 m 39 ls []) := by
      intro n
      induction n with
      | zero => intro hv i fL H locs ls hm; exact absurd hm (Nat.not_lt_zero _)
      | succ n ih =>
        intro hv i fL H locs ls hm hi a4 a5 k3 hz hS hl
        refine lv_iload hx hb dX5_hashOf_39 (lv_at hl 5 rfl) ?_
        refine lv_iload hx hb dX5_hashOf_41 (lv_at hl 4 rfl) ?_
        refine lv_icmp_ge (tgt := 90) hx hb dX5_hashOf_43 (by decide) (fun c6 => ?_) (fun c6 => ?_)
        · replace c6 : (t ≤ i) := (nI_leI (a := t) (b := i) (by omega) (by omega)).mp c6
          refine lv_iload_n hx hb dX5_hashOf_90 rfl (lv_at hl 2 rfl) ?_
          exact z_iret C hr rfl hz hS (by
                intro b e hb 
                have hb0 : fL b = some e := k3 b e hb 
                exact hb0) (Nat.le_of_ble_eq_true rfl) (Nat.le_of_ble_eq_true rfl) dX5_hashOf_91
        · replace c6 : ¬ (t ≤ i) := fun h => c6 ((nI_leI (a := t) (b := i) (by omega) (by omega)).mpr h)
          refine lv_aload_n hx hb dX5_hashOf_46 rfl (lv_at hl 3 rfl) ?_
          refine lv_iload hx hb dX5_hashOf_47 (lv_at hl 5 rfl) ?_
          refine z_lald i C hz a5 rfl (by omega) (by omega) dX5_hashOf_49 ?_
          refine lv_lstore (lv' := [(6, .long (gp i)), (0, .ref h), (1, .ref q), (2, .int hv), (3, .ref pa), (4, .int (nI t)), (5, .int (nI i))]) hx hb dX5_hashOf_50 hl (by decide) rfl (fun ls hl => ?_)
          refine lv_bipush (v := 31) hx hb dX5_hashOf_52 (by decide) ?_
          refine lv_iload_n hx hb dX5_hashOf_54 rfl (lv_at hl 3 rfl) ?_
          refine lv_imul hx hb dX5_hashOf_55 ?_
          refine lv_aload_n hx hb dX5_hashOf_56 rfl (lv_at hl 2 rfl) ?_
          refine z_getN (v := .int kd) C hz a4 zl4 mFNX5_42 (by decide) rfl dX5_hashOf_57 ?_
          refine lv_iconst (v := 4) hx hb dX5_hashOf_60 (by decide) ?_
          refine lv_icmp_ne (tgt := 73) hx hb dX5_hashOf_61 (by decide) (fun c7 => ?_) (fun c7 => ?_)
          rotate_left
          · exact absurd c7 hk4
          refine lv_lload hx hb dX5_hashOf_73 (lv_at hl 0 rfl) ?_
          refine lv_lload hx hb dX5_hashOf_75 (lv_at hl 0 rfl) ?_
          refine lv_bipush (v := 32) hx hb dX5_hashOf_77 (by decide) ?_
          refine lv_lushr (v := ((gp i).toUInt64 >>> ((32 : Int32).toInt64.toUInt64 &&& Int64.toUInt64 63)).toInt64) hx hb dX5_hashOf_79 rfl ?_
          refine lv_lxor hx hb dX5_hashOf_80 ?_
          refine lv_l2i (v := ((gp i) ^^^ (((gp i).toUInt64 >>> ((32 : Int32).toInt64.toUInt64 &&& Int64.toUInt64 63)).toInt64)).toInt32) hx hb dX5_hashOf_81 rfl ?_
          refine lv_iadd hx hb dX5_hashOf_82 ?_
          refine lv_istore_n (lv' := [(2, .int ((31 * hv) + (((gp i) ^^^ (((gp i).toUInt64 >>> ((32 : Int32).toInt64.toUInt64 &&& Int64.toUInt64 63)).toInt64)).toInt32))), (6, .long (gp i)), (0, .ref h), (1, .ref q), (3, .ref pa), (4, .int (nI t)), (5, .int (nI i))]) hx hb dX5_hashOf_83 rfl hl (by decide) rfl (fun ls hl => ?_)
          refine lv_iinc (v := nI (i + 1)) (lv' := [(5, .int (nI (i + 1))), (2, .int ((31 * hv) + (((gp i) ^^^ (((gp i).toUInt64 >>> ((32 : Int32).toInt64.toUInt64 &&& Int64.toUInt64 63)).toInt64)).toInt32))), (6, .long (gp i)), (0, .ref h), (1, .ref q), (3, .ref pa), (4, .int (nI t))]) hx hb dX5_hashOf_84 hl (k := 6) rfl (nI_1 i) (by decide) rfl (fun ls hl => ?_)
          refine lv_goto (tgt := 39) hx hb dX5_hashOf_87 (by decide) ?_
          exact ih ((31 * hv) + (((gp i) ^^^ (((gp i).toUInt64 >>> ((32 : Int32).toInt64.toUInt64 &&& Int64.toUInt64 63)).toInt64)).toInt32)) (i + 1) _ _ _ _ (by omega) (by omega) a4 a5 (by
                intro b e hb 
                have hb0 : fL b = some e := k3 b e hb 
                exact hb0) hz hS (lv_sub hl [3, 4, 1, 5, 6, 0] rfl)
    exact lp2 (t - 0 + 1) kd 0 _ _ _ _ (Nat.lt_succ_self _) (by omega) p0 p1 (fun b e hb => hb) hz hS (lv_sub hl [4, 5, 3, 2, 1, 0] rfl)
  · refine lv_bipush (v := 31) hx hb dX5_hashOf_9 (by decide) ?_
    refine lv_aload_n hx hb dX5_hashOf_11 rfl (lv_at hl 1 rfl) ?_
    refine z_getN (v := .int kd) C hz p0 zl4 mFNX5_42 (by decide) rfl dX5_hashOf_12 ?_
    refine lv_imul hx hb dX5_hashOf_15 ?_
    refine lv_aload_n hx hb dX5_hashOf_16 rfl (lv_at hl 1 rfl) ?_
    refine z_getN (v := .int nu) C hz p0 zl4 mFNX5_28 (by decide) rfl dX5_hashOf_17 ?_
    refine lv_iadd hx hb dX5_hashOf_20 ?_
    exact z_iret C hr rfl hz hS (fun b e hb => hb) (Nat.le_of_ble_eq_true rfl) (Nat.le_of_ble_eq_true rfl) dX5_hashOf_21
abbrev rmX5_rank : Room := { frames := 0, cells := 0, slots := 0, locals := 0 }
set_option maxHeartbeats 4000000 in
set_option maxRecDepth 100000 in
theorem k_X5_rank (l : Launch) (D : va_G) (cy : Nat → ClassId) (f : zM) (h : Nat) (al : Nat) (ra : Nat) (gr : Nat → Option Nat) (q : Nat) (kd : Int32) (pa : Nat) (w : Int64) (wa : Int32) (nu : Int32) (ha : Int32) (be : Int32) (p0 : f h = some (.inr (5, [.ref al, .ref ra, .int 0]))) (p1 : f q = some (.inr (4, [.int kd, .ref pa, .long w, .int wa, .int nu, .int ha, .int be]))) (p2 : f ra = some (.inl (cy 3, 60, .inr (.inr (.inr (.inr gr))))))  : zCv l D cy yX5_rank cX5_rank 5 none rmX5_rank [.ref h, .ref q] f (fun (f1 : zM) => f1 q = some (.inr (4, [.int kd, .ref pa, .long w, .int wa, .int nu, .int ha, .int 0])) ∧ f1 ra = some (.inl (cy 3, 60, .inr (.inr (.inr (.inr (va_up gr 0 (some q))))))) ∧ (∀ (b : Nat) (e : va_E), f b = some e → b ≠ q → b ≠ ra → f1 b = some e)) := by
  intro sz
  refine z_body (by decide +kernel) (Nat.le_of_ble_eq_true rfl) ?_
  intro p e s m below meth c ls C hr hin hsz hz hl
  subst hsz
  have hx := C.1
  have hb := C.2.1
  have hA : ∀ q, s.heap.size ≤ q → zA f s.heap.size q := fun q h => Or.inr h
  have hS : va_S (zA f s.heap.size) s.heap s.heap [] := va_S.rf
  have hl : lv_has ls 5 [(0, .ref h), (1, .ref q)] := hl
  refine lv_aload_n hx hb dX5_rank_0 rfl (lv_at hl 0 rfl) ?_
  refine z_get (v := .int 0) C hz p0 zl5 mFX5_20 (by decide) rfl dX5_rank_1 ?_
  refine lv_istore_n (lv' := [(2, .int 0), (0, .ref h), (1, .ref q)]) hx hb dX5_rank_4 rfl hl (by decide) rfl (fun ls hl => ?_)
  refine lv_iload_n hx hb dX5_rank_5 rfl (lv_at hl 0 rfl) ?_
  refine lv_if_le (tgt := 31) hx hb dX5_rank_6 (by decide) (fun c1 => ?_) (fun c1 => ?_)
  rotate_left
  · exact absurd c1 (by decide)
  refine lv_iload_n hx hb dX5_rank_31 rfl (lv_at hl 0 rfl) ?_
  refine lv_if_le (tgt := 55) hx hb dX5_rank_32 (by decide) (fun c2 => ?_) (fun c2 => ?_)
  rotate_left
  · exact absurd c2 (by decide)
  refine lv_iconst (v := 0) hx hb dX5_rank_55 (by decide) ?_
  refine lv_istore_n (lv' := [(3, .int 0), (2, .int 0), (0, .ref h), (1, .ref q)]) hx hb dX5_rank_56 rfl hl (by decide) rfl (fun ls hl => ?_)
  refine lv_aload_n hx hb dX5_rank_57 rfl (lv_at hl 3 rfl) ?_
  refine lv_iload_n hx hb dX5_rank_58 rfl (lv_at hl 0 rfl) ?_
  refine lv_if_eq (tgt := 76) hx hb dX5_rank_59 (by decide) (fun c3 => ?_) (fun c3 => ?_)
  rotate_left
  · exact absurd c3 (by decide)
  refine lv_iload_n hx hb dX5_rank_76 rfl (lv_at hl 1 rfl) ?_
  refine z_putN (fs' := [.int kd, .ref pa, .long w, .int wa, .int nu, .int ha, .int 0]) C hz hS p1 zl4 mFNX5_69 (by decide) rfl rfl rfl (Nat.le_of_ble_eq_true rfl) rfl dX5_rank_77 (fun H locs f4 a5 k6 hz hS => ?_)
  refine lv_aload_n hx hb dX5_rank_80 rfl (lv_at hl 2 rfl) ?_
  have a7 : f4 h = some (.inr (5, [.ref al, .ref ra, .int 0])) := (k6 _ (z_ne p0 p1 rfl)).trans p0
  refine z_get (v := .int 0) C hz a7 zl5 mFX5_20 (by decide) rfl dX5_rank_81 ?_
  refine lv_istore (lv' := [(4, .int 0), (3, .int 0), (2, .int 0), (0, .ref h), (1, .ref q)]) hx hb dX5_rank_84 hl (by decide) rfl (fun ls hl => ?_)
  refine lv_iload hx hb dX5_rank_86 (lv_at hl 0 rfl) ?_
  refine lv_iload_n hx hb dX5_rank_88 rfl (lv_at hl 2 rfl) ?_
  refine lv_icmp_le (tgt := 130) hx hb dX5_rank_89 (by decide) (fun c8 => ?_) (fun c8 => ?_)
  rotate_left
  · exact absurd c8 (by decide)
  refine lv_aload_n hx hb dX5_rank_130 rfl (lv_at hl 3 rfl) ?_
  refine z_get (v := .ref ra) C hz a7 zl5 mFX5_17 (by decide) rfl dX5_rank_131 ?_
  refine lv_iload_n hx hb dX5_rank_134 rfl (lv_at hl 2 rfl) ?_
  refine lv_aload_n hx hb dX5_rank_135 rfl (lv_at hl 4 rfl) ?_
  have a9 : f4 ra = some (.inl (cy 3, 60, .inr (.inr (.inr (.inr gr))))) := (k6 _ (z_ne p2 p1 rfl)).trans p2
  refine z_astq 0 C hz hS a9 rfl a5 zl4 (by decide) (Nat.le_of_ble_eq_true rfl) (by omega) dX5_rank_136 (fun H locs f10 a11 k12 hz hS => ?_)
  have a13 : f10 q = some (.inr (4, [.int kd, .ref pa, .long w, .int wa, .int nu, .int ha, .int 0])) := (k12 _ (z_ne a5 a9 rfl)).trans a5
  exact z_vret C hr hz hS ⟨a13, a11, (by
        intro b e hb n0 n1
        have hb0 : f4 b = some e := (k6 b n0).trans hb
        have hb1 : f10 b = some e := (k12 b n1).trans hb0
        exact hb1)⟩ (Nat.le_of_ble_eq_true rfl) (Nat.le_of_ble_eq_true rfl) dX5_rank_137
abbrev rmX5_add : Room := { frames := 1, cells := 0, slots := 0, locals := 27 }
set_option maxHeartbeats 4000000 in
set_option maxRecDepth 100000 in
theorem k_X5_add (l : Launch) (D : va_G) (cy : Nat → ClassId) (f : zM) (h : Nat) (al : Nat) (ra : Nat) (ga : Nat → Option Nat) (gr : Nat → Option Nat) (q : Nat) (kd : Int32) (pa : Nat) (w : Int64) (wa : Int32) (nu : Int32) (ha : Int32) (be : Int32) (t : Nat) (gp : Nat → Int64) (p0 : f h = some (.inr (5, [.ref al, .ref ra, .int 0]))) (p1 : f al = some (.inl (cy 3, 60, .inr (.inr (.inr (.inr ga)))))) (p2 : f ra = some (.inl (cy 3, 60, .inr (.inr (.inr (.inr gr)))))) (p3 : f q = some (.inr (4, [.int kd, .ref pa, .long w, .int wa, .int nu, .int ha, .int be]))) (p4 : f pa = some (.inl (cy 1, t, .inr (.inl gp)))) (hk4 : ¬ kd = 4) (ht : t < 2 ^ 31) (har : al ≠ ra) : zCi l D cy yX5_add cX5_add 2 (Option.some Jvm.ClassFile.FieldType.int) rmX5_add [.ref h, .ref q] f (fun (r : Int32) (f1 : zM) => r = 0 ∧ (∀ (b : Nat) (e : va_E), f b = some e → b ≠ h → b ≠ al → b ≠ ra → b ≠ q → f1 b = some e)) := by
  intro sz
  refine z_body (by decide +kernel) (Nat.le_of_ble_eq_true rfl) ?_
  intro p e s m below meth c ls C hr hin hsz hz hl
  subst hsz
  have hx := C.1
  have hb := C.2.1
  have hA : ∀ q, s.heap.size ≤ q → zA f s.heap.size q := fun q h => Or.inr h
  have hS : va_S (zA f s.heap.size) s.heap s.heap [] := va_S.rf
  have hl : lv_has ls 2 [(0, .ref h), (1, .ref q)] := hl
  refine lv_aload_n hx hb dX5_add_0 rfl (lv_at hl 1 rfl) ?_
  refine lv_aload_n hx hb dX5_add_1 rfl (lv_at hl 0 rfl) ?_
  refine z_get (v := .int 0) C hz p0 zl5 mFX5_20 (by decide) rfl dX5_add_2 ?_
  refine z_putN (fs' := [.int kd, .ref pa, .long w, .int wa, .int 0, .int ha, .int be]) C hz hS p3 zl4 mFNX5_28 (by decide) rfl rfl rfl (Nat.le_of_ble_eq_true rfl) rfl dX5_add_5 (fun H locs f1 a2 k3 hz hS => ?_)
  refine lv_aload_n hx hb dX5_add_8 rfl (lv_at hl 1 rfl) ?_
  refine lv_aload_n hx hb dX5_add_9 rfl (lv_at hl 0 rfl) ?_
  refine lv_aload_n hx hb dX5_add_10 rfl (lv_at hl 1 rfl) ?_
  have a4 : f1 pa = some (.inl (cy 1, t, .inr (.inl gp))) := (k3 _ (z_neO p4 p3 rfl)).trans p4
  have a8 : f1 h = some (.inr (5, [.ref al, .ref ra, .int 0])) := (k3 _ (z_ne p0 p3 rfl)).trans p0
  refine z_callVi (As := [.ref q]) C hz hS hA hl (k_X5_hashOf l D cy f1 h q kd pa w wa 0 ha be t gp a2 a4 hk4 ht) zyX5_hashOf mMX5_31 a8 zl5 rfl rfl (Nat.le_of_ble_eq_true rfl) ⟨Nat.le_of_ble_eq_true rfl, Nat.le_of_ble_eq_true rfl⟩ ⟨Nat.le_of_ble_eq_true rfl, Nat.le_of_ble_eq_true rfl⟩ dX5_add_11 (fun r7 f5 H locs h6 hz hS => ?_)
  have k9 := h6
  have a10 : f5 q = some (.inr (4, [.int kd, .ref pa, .long w, .int wa, .int 0, .int ha, .int be])) := k9 _ _ a2 
  refine z_putN (fs' := [.int kd, .ref pa, .long w, .int wa, .int 0, .int r7, .int be]) C hz hS a10 zl4 mFNX5_35 (by decide) rfl rfl rfl (Nat.le_of_ble_eq_true rfl) rfl dX5_add_14 (fun H locs f11 a12 k13 hz hS => ?_)
  refine lv_aload_n hx hb dX5_add_17 rfl (lv_at hl 0 rfl) ?_
  refine lv_aload_n hx hb dX5_add_18 rfl (lv_at hl 1 rfl) ?_
  have a14 : f5 h = some (.inr (5, [.ref al, .ref ra, .int 0])) := k9 _ _ a8 
  have a15 : f11 h = some (.inr (5, [.ref al, .ref ra, .int 0])) := (k13 _ (z_ne a14 a10 rfl)).trans a14
  have a16 : f1 ra = some (.inl (cy 3, 60, .inr (.inr (.inr (.inr gr))))) := (k3 _ (z_ne p2 p3 rfl)).trans p2
  have a17 : f5 ra = some (.inl (cy 3, 60, .inr (.inr (.inr (.inr gr))))) := k9 _ _ a16 
  have a18 : f11 ra = some (.inl (cy 3, 60, .inr (.inr (.inr (.inr gr))))) := (k13 _ (z_ne a17 a10 rfl)).trans a17
  refine z_callVv (As := [.ref q]) C hz hS hA hl (k_X5_rank l D cy f11 h al ra gr q kd pa w wa 0 r7 be a15 a12 a18 ) zyX5_rank mMX5_38 a15 zl5 rfl rfl (Nat.le_of_ble_eq_true rfl) ⟨Nat.le_of_ble_eq_true rfl, Nat.le_of_ble_eq_true rfl⟩ ⟨Nat.le_of_ble_eq_true rfl, Nat.le_of_ble_eq_true rfl⟩ dX5_add_19 (fun  f19 H locs h20 hz hS => ?_)
  obtain ⟨a21, a22, k23⟩ := h20
  refine lv_aload_n hx hb dX5_add_22 rfl (lv_at hl 0 rfl) ?_
  have a24 : f19 h = some (.inr (5, [.ref al, .ref ra, .int 0])) := k23 _ _ a15 (z_ne a15 a12 rfl) (z_ne a15 a18 rfl)
  refine z_get (v := .ref al) C hz a24 zl5 mFX5_13 (by decide) rfl dX5_add_23 ?_
  refine lv_aload_n hx hb dX5_add_26 rfl (lv_at hl 0 rfl) ?_
  refine z_get (v := .int 0) C hz a24 zl5 mFX5_20 (by decide) rfl dX5_add_27 ?_
  refine lv_aload_n hx hb dX5_add_30 rfl (lv_at hl 1 rfl) ?_
  have a25 : f1 al = some (.inl (cy 3, 60, .inr (.inr (.inr (.inr ga))))) := (k3 _ (z_ne p1 p3 rfl)).trans p1
  have a26 : f5 al = some (.inl (cy 3, 60, .inr (.inr (.inr (.inr ga))))) := k9 _ _ a25 
  have a27 : f11 al = some (.inl (cy 3, 60, .inr (.inr (.inr (.inr ga))))) := (k13 _ (z_ne a26 a10 rfl)).trans a26
  have a28 : f19 al = some (.inl (cy 3, 60, .inr (.inr (.inr (.inr ga))))) := k23 _ _ a27 (z_ne a27 a12 rfl) har
  refine z_astq 0 C hz hS a28 rfl a21 zl4 (by decide) (Nat.le_of_ble_eq_true rfl) (by omega) dX5_add_31 (fun H locs f29 a30 k31 hz hS => ?_)
  refine lv_aload_n hx hb dX5_add_32 rfl (lv_at hl 0 rfl) ?_
  refine lv_dup hx hb dX5_add_33 rfl ?_
  have a32 : f29 h = some (.inr (5, [.ref al, .ref ra, .int 0])) := (k31 _ (z_ne a24 a28 rfl)).trans a24
  refine z_get (v := .int 0) C hz a32 zl5 mFX5_20 (by decide) rfl dX5_add_34 ?_
  refine lv_iconst (v := 1) hx hb dX5_add_37 (by decide) ?_
  refine lv_iadd hx hb dX5_add_38 ?_
  refine z_put (fs' := [.ref al, .ref ra, .int (0 + 1)]) C hz hS a32 zl5 mFX5_20 (by decide) rfl rfl rfl (Nat.le_of_ble_eq_true rfl) rfl dX5_add_39 (fun H locs f33 a34 k35 hz hS => ?_)
  refine lv_aload_n hx hb dX5_add_42 rfl (lv_at hl 1 rfl) ?_
  have a36 : f29 q = some (.inr (4, [.int kd, .ref pa, .long w, .int wa, .int 0, .int r7, .int 0])) := (k31 _ (z_ne a21 a28 rfl)).trans a21
  have a37 : f33 q = some (.inr (4, [.int kd, .ref pa, .long w, .int wa, .int 0, .int r7, .int 0])) := (k35 _ (z_ne a36 a32 rfl)).trans a36
  refine z_getN (v := .int 0) C hz a37 zl4 mFNX5_28 (by decide) rfl dX5_add_43 ?_
  exact z_iret C hr rfl hz hS ⟨rfl, (by
        intro b e hb n0 n1 n2 n3
        have hb0 : f1 b = some e := (k3 b n3).trans hb
        have hb1 : f5 b = some e := k9 b e hb0 
        have hb2 : f11 b = some e := (k13 b n3).trans hb1
        have hb3 : f19 b = some e := k23 b e hb2 n3 n2
        have hb4 : f29 b = some e := (k31 b n1).trans hb3
        have hb5 : f33 b = some e := (k35 b n0).trans hb4
        exact hb5)⟩ (Nat.le_of_ble_eq_true rfl) (Nat.le_of_ble_eq_true rfl) dX5_add_46
end
section
theorem z_absne {z : Int32} (h : ¬ z = 0) : ¬ (if 0 < z.toInt64 then z.toInt64 else -z.toInt64) = 0 := by
  have key : ¬ z.toInt64 = 0 := by
    intro q
    apply h
    have q2 : z.toInt64.toInt = (0 : Int64).toInt := by rw [q]
    rw [Int32.toInt_toInt64] at q2
    exact Int32.toInt_inj.mp (by rw [q2]; rfl)
  intro hh
  split at hh
  · exact key hh
  · apply key
    have q3 : - -z.toInt64 = -0 := by rw [hh]
    simpa using q3
abbrev rmX7_cause : Room := { frames := 0, cells := 0, slots := 0, locals := 0 }
set_option maxHeartbeats 4000000 in
set_option maxRecDepth 100000 in
theorem k_X7_cause (l : Launch) (D : va_G) (cy : Nat → ClassId) (f : zM) (o : Nat) (fa : Nat) (fi : Nat) (nu : Nat) (fm : Nat) (co : Nat) (en : Nat) (ke : Nat) (x : Int32) (ev : Nat) (p0 : f o = some (.inr (7, [.ref fa, .ref fi, .ref nu, .int 0, .ref fm, .int 0, .ref co, .int 0, .ref en, .ref ke, .long 1]))) (p1 : f fa = some (.inr (2, [.int 0, .int (-1), .int 0, .ref ev])))  : zCi l D cy yX7_cause cX7_cause 2 (Option.some Jvm.ClassFile.FieldType.int) rmX7_cause [.ref o, .int x] f (fun (r : Int32) (f1 : zM) => r = (if x = 0 then 0 else if x = 1 then (-1) else if x = 2 then 0 else (-2)) ∧ (∀ (b : Nat) (e : va_E), f b = some e → f1 b = some e)) := by
  intro sz
  refine z_body (by decide +kernel) (Nat.le_of_ble_eq_true rfl) ?_
  intro p e s m below meth c ls C hr hin hsz hz hl
  subst hsz
  have hx := C.1
  have hb := C.2.1
  have hA : ∀ q, s.heap.size ≤ q → zA f s.heap.size q := fun q h => Or.inr h
  have hS : va_S (zA f s.heap.size) s.heap s.heap [] := va_S.rf
  have hl : lv_has ls 2 [(0, .ref o), (1, .int x)] := hl
  refine lv_iload_n hx hb dX7_cause_0 rfl (lv_at hl 1 rfl) ?_
  by_cases c1_0 : x = 0
  · refine lv_tableIn (off := 27) (tgt := 28) hx hb dX7_cause_1 (by rw [c1_0]; decide) (by rw [c1_0]; decide) (by rw [c1_0]; decide) (by decide) ?_
    refine lv_aload_n hx hb dX7_cause_28 rfl (lv_at hl 0 rfl) ?_
    refine z_get (v := .ref fa) C hz p0 zl7 mFX7_10 (by decide) rfl dX7_cause_29 ?_
    refine z_getN (v := .int 0) C hz p1 zl2 mFNX7_67 (by decide) rfl dX7_cause_32 ?_
    exact z_iret C hr rfl hz hS ⟨(by simp [c1_0]), (fun b e hb => hb)⟩ (Nat.le_of_ble_eq_true rfl) (Nat.le_of_ble_eq_true rfl) dX7_cause_35
  by_cases c1_1 : x = 1
  · refine lv_tableIn (off := 35) (tgt := 36) hx hb dX7_cause_1 (by rw [c1_1]; decide) (by rw [c1_1]; decide) (by rw [c1_1]; decide) (by decide) ?_
    refine lv_aload_n hx hb dX7_cause_36 rfl (lv_at hl 0 rfl) ?_
    refine z_get (v := .ref fa) C hz p0 zl7 mFX7_10 (by decide) rfl dX7_cause_37 ?_
    refine z_getN (v := .int (-1)) C hz p1 zl2 mFNX7_70 (by decide) rfl dX7_cause_40 ?_
    exact z_iret C hr rfl hz hS ⟨(by simp [c1_1, c1_0]), (fun b e hb => hb)⟩ (Nat.le_of_ble_eq_true rfl) (Nat.le_of_ble_eq_true rfl) dX7_cause_43
  by_cases c1_2 : x = 2
  · refine lv_tableIn (off := 43) (tgt := 44) hx hb dX7_cause_1 (by rw [c1_2]; decide) (by rw [c1_2]; decide) (by rw [c1_2]; decide) (by decide) ?_
    refine lv_aload_n hx hb dX7_cause_44 rfl (lv_at hl 0 rfl) ?_
    refine z_get (v := .ref fa) C hz p0 zl7 mFX7_10 (by decide) rfl dX7_cause_45 ?_
    refine z_getN (v := .int 0) C hz p1 zl2 mFNX7_73 (by decide) rfl dX7_cause_48 ?_
    exact z_iret C hr rfl hz hS ⟨(by simp [c1_2, c1_0, c1_1]), (fun b e hb => hb)⟩ (Nat.le_of_ble_eq_true rfl) (Nat.le_of_ble_eq_true rfl) dX7_cause_51
  refine lv_tableOut (tgt := 52) hx hb dX7_cause_1 (by have t0 := lv_neT c1_0 (a := 0) (by decide); have t1 := lv_neT c1_1 (a := 1) (by decide); have t2 := lv_neT c1_2 (a := 2) (by decide);  omega) (by decide) ?_
  refine lv_bipush (v := (-2)) hx hb dX7_cause_52 (by decide) ?_
  exact z_iret C hr rfl hz hS ⟨(by simp [c1_0, c1_1, c1_2]), (fun b e hb => hb)⟩ (Nat.le_of_ble_eq_true rfl) (Nat.le_of_ble_eq_true rfl) dX7_cause_54
abbrev rmX7_lay : Room := { frames := 0, cells := 0, slots := 0, locals := 0 }
set_option maxHeartbeats 4000000 in
set_option maxRecDepth 100000 in
theorem k_X7_lay (l : Launch) (D : va_G) (cy : Nat → ClassId) (f : zM) (o : Nat) (fa : Nat) (fi : Nat) (nu : Nat) (fm : Nat) (co : Nat) (en : Nat) (ke : Nat) (x : Int32) (g : Nat → Int32) (p0 : f o = some (.inr (7, [.ref fa, .ref fi, .ref nu, .int 0, .ref fm, .int 0, .ref co, .int 0, .ref en, .ref ke, .long 1]))) (p1 : f nu = some (.inl (cy 0, 12, .inl g)))  : zCi l D cy yX7_lay cX7_lay 2 (Option.some Jvm.ClassFile.FieldType.int) rmX7_lay [.ref o, .int x] f (fun (r : Int32) (f1 : zM) => r = 1 ∧ (∀ (b : Nat) (e : va_E), f b = some e → b ≠ o → b ≠ nu → f1 b = some e)) := by
  intro sz
  refine z_body (by decide +kernel) (Nat.le_of_ble_eq_true rfl) ?_
  intro p e s m below meth c ls C hr hin hsz hz hl
  subst hsz
  have hx := C.1
  have hb := C.2.1
  have hA : ∀ q, s.heap.size ≤ q → zA f s.heap.size q := fun q h => Or.inr h
  have hS : va_S (zA f s.heap.size) s.heap s.heap [] := va_S.rf
  have hl : lv_has ls 2 [(0, .ref o), (1, .int x)] := hl
  refine lv_aload_n hx hb dX7_lay_0 rfl (lv_at hl 0 rfl) ?_
  refine z_get (v := .int 0) C hz p0 zl7 mFX7_27 (by decide) rfl dX7_lay_1 ?_
  refine lv_bipush (v := 12) hx hb dX7_lay_4 (by decide) ?_
  refine lv_icmp_lt (tgt := 12) hx hb dX7_lay_6 (by decide) (fun c1 => ?_) (fun c1 => ?_)
  rotate_left
  · exact absurd c1 (by decide)
  refine lv_aload_n hx hb dX7_lay_12 rfl (lv_at hl 0 rfl) ?_
  refine z_get (v := .ref nu) C hz p0 zl7 mFX7_23 (by decide) rfl dX7_lay_13 ?_
  refine lv_aload_n hx hb dX7_lay_16 rfl (lv_at hl 0 rfl) ?_
  refine z_get (v := .int 0) C hz p0 zl7 mFX7_27 (by decide) rfl dX7_lay_17 ?_
  refine lv_iload_n hx hb dX7_lay_20 rfl (lv_at hl 1 rfl) ?_
  refine z_iast 0 C hz hS p1 (by decide) (Nat.le_of_ble_eq_true rfl) (by omega) dX7_lay_21 (fun H locs f2 a3 k4 hz hS => ?_)
  refine lv_aload_n hx hb dX7_lay_22 rfl (lv_at hl 0 rfl) ?_
  refine lv_dup hx hb dX7_lay_23 rfl ?_
  have a5 : f2 o = some (.inr (7, [.ref fa, .ref fi, .ref nu, .int 0, .ref fm, .int 0, .ref co, .int 0, .ref en, .ref ke, .long 1])) := (k4 _ (z_ne p0 p1 rfl)).trans p0
  refine z_get (v := .int 0) C hz a5 zl7 mFX7_27 (by decide) rfl dX7_lay_24 ?_
  refine lv_iconst (v := 1) hx hb dX7_lay_27 (by decide) ?_
  refine lv_iadd hx hb dX7_lay_28 ?_
  refine z_put (fs' := [.ref fa, .ref fi, .ref nu, .int (0 + 1), .ref fm, .int 0, .ref co, .int 0, .ref en, .ref ke, .long 1]) C hz hS a5 zl7 mFX7_27 (by decide) rfl rfl rfl (Nat.le_of_ble_eq_true rfl) rfl dX7_lay_29 (fun H locs f6 a7 k8 hz hS => ?_)
  refine lv_aload_n hx hb dX7_lay_32 rfl (lv_at hl 0 rfl) ?_
  refine z_get (v := .int (0 + 1)) C hz a7 zl7 mFX7_27 (by decide) rfl dX7_lay_33 ?_
  exact z_iret C hr rfl hz hS ⟨(by decide), (by
        intro b e hb n0 n1
        have hb0 : f2 b = some e := (k4 b n1).trans hb
        have hb1 : f6 b = some e := (k8 b n0).trans hb0
        exact hb1)⟩ (Nat.le_of_ble_eq_true rfl) (Nat.le_of_ble_eq_true rfl) dX7_lay_36
abbrev rmX7_wipe : Room := { frames := 0, cells := 0, slots := 0, locals := 0 }
set_option maxHeartbeats 4000000 in
set_option maxRecDepth 100000 in
theorem k_X7_wipe (l : Launch) (D : va_G) (cy : Nat → ClassId) (f : zM) (o : Nat) (fa : Nat) (fi : Nat) (nu : Nat) (fm : Nat) (co : Nat) (en : Nat) (ke : Nat) (p0 : f o = some (.inr (7, [.ref fa, .ref fi, .ref nu, .int 0, .ref fm, .int 0, .ref co, .int 0, .ref en, .ref ke, .long 1])))  : zCi l D cy yX7_wipe cX7_wipe 2 (Option.some Jvm.ClassFile.FieldType.int) rmX7_wipe [.ref o] f (fun (r : Int32) (f1 : zM) => r = 0 ∧ (∀ (b : Nat) (e : va_E), f b = some e → b ≠ o → f1 b = some e)) := by
  intro sz
  refine z_body (by decide +kernel) (Nat.le_of_ble_eq_true rfl) ?_
  intro p e s m below meth c ls C hr hin hsz hz hl
  subst hsz
  have hx := C.1
  have hb := C.2.1
  have hA : ∀ q, s.heap.size ≤ q → zA f s.heap.size q := fun q h => Or.inr h
  have hS : va_S (zA f s.heap.size) s.heap s.heap [] := va_S.rf
  have hl : lv_has ls 2 [(0, .ref o)] := hl
  refine lv_aload_n hx hb dX7_wipe_0 rfl (lv_at hl 0 rfl) ?_
  refine z_get (v := .int 0) C hz p0 zl7 mFX7_27 (by decide) rfl dX7_wipe_1 ?_
  refine lv_istore_n (lv' := [(1, .int 0), (0, .ref o)]) hx hb dX7_wipe_4 rfl hl (by decide) rfl (fun ls hl => ?_)
  refine lv_aload_n hx hb dX7_wipe_5 rfl (lv_at hl 1 rfl) ?_
  refine lv_iconst (v := 0) hx hb dX7_wipe_6 (by decide) ?_
  refine z_put (fs' := [.ref fa, .ref fi, .ref nu, .int 0, .ref fm, .int 0, .ref co, .int 0, .ref en, .ref ke, .long 1]) C hz hS p0 zl7 mFX7_27 (by decide) rfl rfl rfl (Nat.le_of_ble_eq_true rfl) rfl dX7_wipe_7 (fun H locs f1 a2 k3 hz hS => ?_)
  refine lv_iload_n hx hb dX7_wipe_10 rfl (lv_at hl 0 rfl) ?_
  exact z_iret C hr rfl hz hS ⟨rfl, (by
        intro b e hb n0
        have hb0 : f1 b = some e := (k3 b n0).trans hb
        exact hb0)⟩ (Nat.le_of_ble_eq_true rfl) (Nat.le_of_ble_eq_true rfl) dX7_wipe_11
abbrev rmX7_oneNan : Room := { frames := 0, cells := 0, slots := 0, locals := 0 }
set_option maxHeartbeats 4000000 in
set_option maxRecDepth 100000 in
theorem k_X7_oneNan (l : Launch) (D : va_G) (cy : Nat → ClassId) (f : zM) (v : Int64)   : zCl l D cy yX7_oneNan cX7_oneNan 3 (Option.some Jvm.ClassFile.FieldType.long) rmX7_oneNan [.long v] f (fun (r : Int64) (f1 : zM) => (∀ (b : Nat) (e : va_E), f b = some e → f1 b = some e)) := by
  intro sz
  refine z_body (by decide +kernel) (Nat.le_of_ble_eq_true rfl) ?_
  intro p e s m below meth c ls C hr hin hsz hz hl
  subst hsz
  have hx := C.1
  have hb := C.2.1
  have hA : ∀ q, s.heap.size ≤ q → zA f s.heap.size q := fun q h => Or.inr h
  have hS : va_S (zA f s.heap.size) s.heap s.heap [] := va_S.rf
  have hl : lv_has ls 3 [(0, .long v)] := hl
  refine lv_lload_n hx hb dX7_oneNan_0 rfl (lv_at hl 0 rfl) ?_
  refine lv_ldc2 (v := 9223372036854775807) hx hb C.2.2.2.1 (C.2.2.2.2.1 _ mKX7_269) dX7_oneNan_1 ?_
  refine lv_land hx hb dX7_oneNan_4 ?_
  refine lv_ldc2 (v := 9218868437227405312) hx hb C.2.2.2.1 (C.2.2.2.2.1 _ mKX7_271) dX7_oneNan_5 ?_
  refine W.lcmp hx hb dX7_oneNan_8 ?_
  refine lv_if_le (tgt := 16) hx hb dX7_oneNan_9 (by decide) (fun c1 => ?_) (fun c1 => ?_)
  · refine lv_iconst (v := 0) hx hb dX7_oneNan_16 (by decide) ?_
    refine lv_istore_n (lv' := [(2, .int 0), (0, .long v)]) hx hb dX7_oneNan_17 rfl hl (by decide) rfl (fun ls hl => ?_)
    refine lv_iload_n hx hb dX7_oneNan_18 rfl (lv_at hl 0 rfl) ?_
    refine lv_if_eq (tgt := 28) hx hb dX7_oneNan_19 (by decide) (fun c2 => ?_) (fun c2 => ?_)
    rotate_left
    · exact absurd c2 (by decide)
    refine lv_lload_n hx hb dX7_oneNan_28 rfl (lv_at hl 1 rfl) ?_
    exact z_lret C hr hz hS (fun b e hb => hb) (Nat.le_of_ble_eq_true rfl) (Nat.le_of_ble_eq_true rfl) dX7_oneNan_29
  · refine lv_iconst (v := 1) hx hb dX7_oneNan_12 (by decide) ?_
    refine lv_goto (tgt := 17) hx hb dX7_oneNan_13 (by decide) ?_
    refine lv_istore_n (lv' := [(2, .int 1), (0, .long v)]) hx hb dX7_oneNan_17 rfl hl (by decide) rfl (fun ls hl => ?_)
    refine lv_iload_n hx hb dX7_oneNan_18 rfl (lv_at hl 0 rfl) ?_
    refine lv_if_eq (tgt := 28) hx hb dX7_oneNan_19 (by decide) (fun c3 => ?_) (fun c3 => ?_)
    · exact absurd c3 (by decide)
    refine lv_ldc2 (v := 9221120237041090560) hx hb C.2.2.2.1 (C.2.2.2.2.1 _ mKX7_273) dX7_oneNan_22 ?_
    refine lv_goto (tgt := 29) hx hb dX7_oneNan_25 (by decide) ?_
    exact z_lret C hr hz hS (fun b e hb => hb) (Nat.le_of_ble_eq_true rfl) (Nat.le_of_ble_eq_true rfl) dX7_oneNan_29
abbrev rmX7_lengthOf : Room := { frames := 0, cells := 0, slots := 0, locals := 0 }
set_option maxHeartbeats 4000000 in
set_option maxRecDepth 100000 in
theorem k_X7_lengthOf (l : Launch) (D : va_G) (cy : Nat → ClassId) (f : zM) (x : Int32) (y : Int32)   : zCl l D cy yX7_lengthOf cX7_lengthOf 2 (Option.some Jvm.ClassFile.FieldType.long) rmX7_lengthOf [.int x, .int y] f (fun (r : Int64) (f1 : zM) => (∀ (b : Nat) (e : va_E), f b = some e → f1 b = some e)) := by
  intro sz
  refine z_body (by decide +kernel) (Nat.le_of_ble_eq_true rfl) ?_
  intro p e s m below meth c ls C hr hin hsz hz hl
  subst hsz
  have hx := C.1
  have hb := C.2.1
  have hA : ∀ q, s.heap.size ≤ q → zA f s.heap.size q := fun q h => Or.inr h
  have hS : va_S (zA f s.heap.size) s.heap s.heap [] := va_S.rf
  have hl : lv_has ls 2 [(0, .int x), (1, .int y)] := hl
  refine lv_iload_n hx hb dX7_lengthOf_0 rfl (lv_at hl 1 rfl) ?_
  refine lv_i2l (v := y.toInt64) hx hb dX7_lengthOf_1 rfl ?_
  refine lv_iload_n hx hb dX7_lengthOf_2 rfl (lv_at hl 0 rfl) ?_
  refine lv_i2l (v := x.toInt64) hx hb dX7_lengthOf_3 rfl ?_
  refine lv_lsub hx hb dX7_lengthOf_4 ?_
  refine lv_lconst (v := 1) hx hb dX7_lengthOf_5 (by decide) ?_
  refine lv_ladd hx hb dX7_lengthOf_6 ?_
  exact z_lret C hr hz hS (fun b e hb => hb) (Nat.le_of_ble_eq_true rfl) (Nat.le_of_ble_eq_true rfl) dX7_lengthOf_7
abbrev rmX7_point : Room := { frames := 2, cells := 2, slots := 9, locals := 48 }
set_option maxHeartbeats 4000000 in
set_option maxRecDepth 100000 in
theorem k_X7_point (l : Launch) (D : va_G) (cy : Nat → ClassId) (f : zM) (o : Nat) (fa : Nat) (fi : Nat) (nu : Nat) (fm : Nat) (co : Nat) (en : Nat) (ke : Nat) (x : Int64) (y : Int64) (u1 : Int32) (u2 : Int32) (u3 : Int32) (ev : Nat) (al : Nat) (ra : Nat) (ga : Nat → Option Nat) (gr : Nat → Option Nat) (p0 : f o = some (.inr (7, [.ref fa, .ref fi, .ref nu, .int 0, .ref fm, .int 0, .ref co, .int 0, .ref en, .ref ke, .long 1]))) (p1 : f fa = some (.inr (2, [.int u1, .int u2, .int u3, .ref ev]))) (p2 : f fi = some (.inr (5, [.ref al, .ref ra, .int 0]))) (p3 : f al = some (.inl (cy 3, 60, .inr (.inr (.inr (.inr ga)))))) (p4 : f ra = some (.inl (cy 3, 60, .inr (.inr (.inr (.inr gr)))))) (har : al ≠ ra) : zCi l D cy yX7_point cX7_point 5 (Option.some Jvm.ClassFile.FieldType.int) rmX7_point [.ref o, .long x, .long y] f (fun (r : Int32) (f1 : zM) => r = 0 ∧ (∀ (b : Nat) (e : va_E), f b = some e → b ≠ fa → b ≠ fi → b ≠ al → b ≠ ra → f1 b = some e)) := by
  intro sz
  refine z_body (by decide +kernel) (Nat.le_of_ble_eq_true rfl) ?_
  intro p e s m below meth c ls C hr hin hsz hz hl
  subst hsz
  have hx := C.1
  have hb := C.2.1
  have hA : ∀ q, s.heap.size ≤ q → zA f s.heap.size q := fun q h => Or.inr h
  have hS : va_S (zA f s.heap.size) s.heap s.heap [] := va_S.rf
  have hl : lv_has ls 5 [(0, .ref o), (1, .long x), (3, .long y)] := hl
  refine lv_aload_n hx hb dX7_point_0 rfl (lv_at hl 0 rfl) ?_
  refine z_get (v := .ref fa) C hz p0 zl7 mFX7_10 (by decide) rfl dX7_point_1 ?_
  refine z_callVv (As := []) C hz hS hA hl (k_X2_none l D cy f fa u1 u2 u3 ev p1 ) zyX2_none mMX7_76 p1 zl2 rfl rfl (Nat.le_of_ble_eq_true rfl) ⟨Nat.le_of_ble_eq_true rfl, Nat.le_of_ble_eq_true rfl⟩ ⟨Nat.le_of_ble_eq_true rfl, Nat.le_of_ble_eq_true rfl⟩ dX7_point_4 (fun  f1 H locs h2 hz hS => ?_)
  obtain ⟨a3, k4⟩ := h2
  refine lv_aload_n hx hb dX7_point_7 rfl (lv_at hl 0 rfl) ?_
  have a5 : f1 o = some (.inr (7, [.ref fa, .ref fi, .ref nu, .int 0, .ref fm, .int 0, .ref co, .int 0, .ref en, .ref ke, .long 1])) := k4 _ _ p0 (z_ne p0 p1 rfl)
  refine z_get (v := .ref fi) C hz a5 zl7 mFX7_19 (by decide) rfl dX7_point_8 ?_
  have a6 : f1 fi = some (.inr (5, [.ref al, .ref ra, .int 0])) := k4 _ _ p2 (z_ne p2 p1 rfl)
  refine z_callVi (As := []) C hz hS hA hl (k_X5_isFull l D cy f1 fi al ra a6 ) zyX5_isFull mMX7_79 a6 zl5 rfl rfl (Nat.le_of_ble_eq_true rfl) ⟨Nat.le_of_ble_eq_true rfl, Nat.le_of_ble_eq_true rfl⟩ ⟨Nat.le_of_ble_eq_true rfl, Nat.le_of_ble_eq_true rfl⟩ dX7_point_11 (fun r f7 H locs h8 hz hS => ?_)
  obtain ⟨rfl, k9⟩ := h8
  refine lv_if_eq (tgt := 20) hx hb dX7_point_14 (by decide) (fun c10 => ?_) (fun c10 => ?_)
  rotate_left
  · exact absurd c10 (by decide)
  refine lv_aload_n hx hb dX7_point_20 rfl (lv_at hl 0 rfl) ?_
  have a11 : f7 o = some (.inr (7, [.ref fa, .ref fi, .ref nu, .int 0, .ref fm, .int 0, .ref co, .int 0, .ref en, .ref ke, .long 1])) := k9 _ _ a5 
  refine z_get (v := .ref fi) C hz a11 zl7 mFX7_19 (by decide) rfl dX7_point_21 ?_
  refine z_new (fs := [.int 0, .null, .long 0, .int 0, .int 0, .int 0, .int 0]) C hz hS hA zl4 mLX7_83 mIa_RX4 mIn_RX4 (by decide +kernel) (Nat.le_of_ble_eq_true rfl) (Nat.le_of_ble_eq_true rfl) dX7_point_24 (fun q12 H f14 u13 a15 k16 hz hS => ?_)
  refine lv_dup hx hb dX7_point_27 rfl ?_
  refine lv_iconst (v := 0) hx hb dX7_point_28 (by decide) ?_
  refine lv_iconst (v := 2) hx hb dX7_point_29 (by decide) ?_
  refine z_newa (atype := .long) (t0 := 1) (N' := 2) (x := (.inr (.inl (fun _ => 0)))) C hz hS hA rfl mA_long rfl (fun _ => rfl) (by decide) (Nat.le_of_ble_eq_true rfl) (by decide) (Nat.le_of_ble_eq_true rfl) (Nat.le_of_ble_eq_true rfl) dX7_point_30 (fun q17 H f19 u18 a20 k21 hz hS => ?_)
  refine lv_dup hx hb dX7_point_32 rfl ?_
  refine lv_iconst (v := 0) hx hb dX7_point_33 (by decide) ?_
  refine lv_lload_n hx hb dX7_point_34 rfl (lv_at hl 1 rfl) ?_
  refine z_callSl (As := [.long x]) C hz hS hA hl (k_X7_oneNan l D cy f19 x  ) zyX7_oneNan mMX7_85 rfl rfl (Nat.le_of_ble_eq_true rfl) ⟨Nat.le_of_ble_eq_true rfl, Nat.le_of_ble_eq_true rfl⟩ ⟨Nat.le_of_ble_eq_true rfl, Nat.le_of_ble_eq_true rfl⟩ dX7_point_35 (fun r24 f22 H locs h23 hz hS => ?_)
  have k25 := h23
  have a26 : f22 q17 = some (.inl (cy 1, 2, .inr (.inl (fun _ => 0)))) := k25 _ _ a20 
  refine z_last 0 C hz hS a26 (by decide) (Nat.le_of_ble_eq_true rfl) (by omega) dX7_point_38 (fun H locs f27 a28 k29 hz hS => ?_)
  refine lv_dup hx hb dX7_point_39 rfl ?_
  refine lv_iconst (v := 1) hx hb dX7_point_40 (by decide) ?_
  refine lv_lload_n hx hb dX7_point_41 rfl (lv_at hl 2 rfl) ?_
  refine z_callSl (As := [.long y]) C hz hS hA hl (k_X7_oneNan l D cy f27 y  ) zyX7_oneNan mMX7_85 rfl rfl (Nat.le_of_ble_eq_true rfl) ⟨Nat.le_of_ble_eq_true rfl, Nat.le_of_ble_eq_true rfl⟩ ⟨Nat.le_of_ble_eq_true rfl, Nat.le_of_ble_eq_true rfl⟩ dX7_point_42 (fun r32 f30 H locs h31 hz hS => ?_)
  have k33 := h31
  have a34 : f30 q17 = some (.inl (cy 1, 2, .inr (.inl (vp_updL (fun _ => 0) 0 r24)))) := k33 _ _ a28 
  refine z_last 1 C hz hS a34 (by decide) (Nat.le_of_ble_eq_true rfl) (by omega) dX7_point_45 (fun H locs f35 a36 k37 hz hS => ?_)
  refine lv_lconst (v := 1) hx hb dX7_point_46 (by decide) ?_
  have a38 : f19 q12 = some (.inr (4, [.int 0, .null, .long 0, .int 0, .int 0, .int 0, .int 0])) := (k21 _ (z_nn u18 a15)).trans a15
  have a39 : f22 q12 = some (.inr (4, [.int 0, .null, .long 0, .int 0, .int 0, .int 0, .int 0])) := k25 _ _ a38 
  have a40 : f27 q12 = some (.inr (4, [.int 0, .null, .long 0, .int 0, .int 0, .int 0, .int 0])) := (k29 _ (z_nn u18 a15)).trans a39
  have a41 : f30 q12 = some (.inr (4, [.int 0, .null, .long 0, .int 0, .int 0, .int 0, .int 0])) := k33 _ _ a40 
  have a42 : f35 q12 = some (.inr (4, [.int 0, .null, .long 0, .int 0, .int 0, .int 0, .int 0])) := (k37 _ (z_nn u18 a15)).trans a41
  refine z_callIv (ret := none) (As := [.int 0, .ref q17, .long 1]) C hz hS hA hl (k_X4_init l D cy f35 q12 0 q17 1 a42 ) zyX4_init mMX7_89 rfl rfl (Nat.le_of_ble_eq_true rfl) ⟨Nat.le_of_ble_eq_true rfl, Nat.le_of_ble_eq_true rfl⟩ ⟨Nat.le_of_ble_eq_true rfl, Nat.le_of_ble_eq_true rfl⟩ dX7_point_47 (fun  f43 H locs h44 hz hS => ?_)
  obtain ⟨a45, k46⟩ := h44
  have a47 : f7 fi = some (.inr (5, [.ref al, .ref ra, .int 0])) := k9 _ _ a6 
  have a48 : f14 fi = some (.inr (5, [.ref al, .ref ra, .int 0])) := (k16 _ (z_nn u13 a47)).trans a47
  have a49 : f19 fi = some (.inr (5, [.ref al, .ref ra, .int 0])) := (k21 _ (z_nn u18 a48)).trans a48
  have a50 : f22 fi = some (.inr (5, [.ref al, .ref ra, .int 0])) := k25 _ _ a49 
  have a51 : f27 fi = some (.inr (5, [.ref al, .ref ra, .int 0])) := (k29 _ (z_nn u18 a48)).trans a50
  have a52 : f30 fi = some (.inr (5, [.ref al, .ref ra, .int 0])) := k33 _ _ a51 
  have a53 : f35 fi = some (.inr (5, [.ref al, .ref ra, .int 0])) := (k37 _ (z_nn u18 a48)).trans a52
  have a54 : f43 fi = some (.inr (5, [.ref al, .ref ra, .int 0])) := k46 _ _ a53 (z_nn u13 a47)
  have a55 : f1 al = some (.inl (cy 3, 60, .inr (.inr (.inr (.inr ga))))) := k4 _ _ p3 (z_ne p3 p1 rfl)
  have a56 : f7 al = some (.inl (cy 3, 60, .inr (.inr (.inr (.inr ga))))) := k9 _ _ a55 
  have a57 : f14 al = some (.inl (cy 3, 60, .inr (.inr (.inr (.inr ga))))) := (k16 _ (z_nn u13 a56)).trans a56
  have a58 : f19 al = some (.inl (cy 3, 60, .inr (.inr (.inr (.inr ga))))) := (k21 _ (z_nn u18 a57)).trans a57
  have a59 : f22 al = some (.inl (cy 3, 60, .inr (.inr (.inr (.inr ga))))) := k25 _ _ a58 
  have a60 : f27 al = some (.inl (cy 3, 60, .inr (.inr (.inr (.inr ga))))) := (k29 _ (z_nn u18 a57)).trans a59
  have a61 : f30 al = some (.inl (cy 3, 60, .inr (.inr (.inr (.inr ga))))) := k33 _ _ a60 
  have a62 : f35 al = some (.inl (cy 3, 60, .inr (.inr (.inr (.inr ga))))) := (k37 _ (z_nn u18 a57)).trans a61
  have a63 : f43 al = some (.inl (cy 3, 60, .inr (.inr (.inr (.inr ga))))) := k46 _ _ a62 (z_nn u13 a56)
  have a64 : f1 ra = some (.inl (cy 3, 60, .inr (.inr (.inr (.inr gr))))) := k4 _ _ p4 (z_ne p4 p1 rfl)
  have a65 : f7 ra = some (.inl (cy 3, 60, .inr (.inr (.inr (.inr gr))))) := k9 _ _ a64 
  have a66 : f14 ra = some (.inl (cy 3, 60, .inr (.inr (.inr (.inr gr))))) := (k16 _ (z_nn u13 a65)).trans a65
  have a67 : f19 ra = some (.inl (cy 3, 60, .inr (.inr (.inr (.inr gr))))) := (k21 _ (z_nn u18 a66)).trans a66
  have a68 : f22 ra = some (.inl (cy 3, 60, .inr (.inr (.inr (.inr gr))))) := k25 _ _ a67 
  have a69 : f27 ra = some (.inl (cy 3, 60, .inr (.inr (.inr (.inr gr))))) := (k29 _ (z_nn u18 a66)).trans a68
  have a70 : f30 ra = some (.inl (cy 3, 60, .inr (.inr (.inr (.inr gr))))) := k33 _ _ a69 
  have a71 : f35 ra = some (.inl (cy 3, 60, .inr (.inr (.inr (.inr gr))))) := (k37 _ (z_nn u18 a66)).trans a70
  have a72 : f43 ra = some (.inl (cy 3, 60, .inr (.inr (.inr (.inr gr))))) := k46 _ _ a71 (z_nn u13 a65)
  have a73 : f43 q17 = some (.inl (cy 1, 2, .inr (.inl (vp_updL (vp_updL (fun _ => 0) 0 r24) 1 r32)))) := k46 _ _ a36 (Ne.symm (z_nn u18 a15))
  refine z_callVi (As := [.ref q12]) C hz hS hA hl (k_X5_add l D cy f43 fi al ra ga gr q12 0 q17 1 0 (-1) 0 0 2 (vp_updL (vp_updL (fun _ => 0) 0 r24) 1 r32) a54 a63 a72 a45 a73 (by decide) (Nat.le_of_ble_eq_true rfl) har) zyX5_add mMX7_92 a54 zl5 rfl rfl (Nat.le_of_ble_eq_true rfl) ⟨Nat.le_of_ble_eq_true rfl, Nat.le_of_ble_eq_true rfl⟩ ⟨Nat.le_of_ble_eq_true rfl, Nat.le_of_ble_eq_true rfl⟩ dX7_point_50 (fun r f74 H locs h75 hz hS => ?_)
  obtain ⟨rfl, k76⟩ := h75
  exact z_iret C hr rfl hz hS ⟨rfl, (by
        intro b e hb n0 n1 n2 n3
        have hb0 : f1 b = some e := k4 b e hb n0
        have hb1 : f7 b = some e := k9 b e hb0 
        have nn2 : b ≠ q12 := z_nn u13 hb1
        have hb2 : f14 b = some e := (k16 b nn2).trans hb1
        have nn3 : b ≠ q17 := z_nn u18 hb2
        have hb3 : f19 b = some e := (k21 b nn3).trans hb2
        have hb4 : f22 b = some e := k25 b e hb3 
        have hb5 : f27 b = some e := (k29 b nn3).trans hb4
        have hb6 : f30 b = some e := k33 b e hb5 
        have hb7 : f35 b = some e := (k37 b nn3).trans hb6
        have hb8 : f43 b = some e := k46 b e hb7 nn2
        have hb9 : f74 b = some e := k76 b e hb8 n1 n2 n3 nn2
        exact hb9)⟩ (Nat.le_of_ble_eq_true rfl) (Nat.le_of_ble_eq_true rfl) dX7_point_53
abbrev rmX7_span : Room := { frames := 2, cells := 2, slots := 9, locals := 48 }
set_option maxHeartbeats 4000000 in
set_option maxRecDepth 100000 in
theorem k_X7_span (l : Launch) (D : va_G) (cy : Nat → ClassId) (f : zM) (o : Nat) (fa : Nat) (fi : Nat) (nu : Nat) (fm : Nat) (co : Nat) (en : Nat) (ke : Nat) (x : Int32) (y : Int32) (u1 : Int32) (u2 : Int32) (u3 : Int32) (ev : Nat) (al : Nat) (ra : Nat) (ga : Nat → Option Nat) (gr : Nat → Option Nat) (g : Nat → Int32) (p0 : f o = some (.inr (7, [.ref fa, .ref fi, .ref nu, .int 0, .ref fm, .int 0, .ref co, .int 0, .ref en, .ref ke, .long 1]))) (p1 : f fa = some (.inr (2, [.int u1, .int u2, .int u3, .ref ev]))) (p2 : f fi = some (.inr (5, [.ref al, .ref ra, .int 0]))) (p3 : f al = some (.inl (cy 3, 60, .inr (.inr (.inr (.inr ga)))))) (p4 : f ra = some (.inl (cy 3, 60, .inr (.inr (.inr (.inr gr)))))) (p5 : f ev = some (.inl (cy 0, 8, .inl g))) (har : al ≠ ra) : zCi l D cy yX7_span cX7_span 3 (Option.some Jvm.ClassFile.FieldType.int) rmX7_span [.ref o, .int x, .int y] f (fun (r : Int32) (f1 : zM) => r = (if x ≤ y then 0 else (-4)) ∧ (∀ (b : Nat) (e : va_E), f b = some e → b ≠ fa → b ≠ fi → b ≠ al → b ≠ ra → b ≠ ev → f1 b = some e)) := by
  intro sz
  refine z_body (by decide +kernel) (Nat.le_of_ble_eq_true rfl) ?_
  intro p e s m below meth c ls C hr hin hsz hz hl
  subst hsz
  have hx := C.1
  have hb := C.2.1
  have hA : ∀ q, s.heap.size ≤ q → zA f s.heap.size q := fun q h => Or.inr h
  have hS : va_S (zA f s.heap.size) s.heap s.heap [] := va_S.rf
  have hl : lv_has ls 3 [(0, .ref o), (1, .int x), (2, .int y)] := hl
  refine lv_aload_n hx hb dX7_span_0 rfl (lv_at hl 0 rfl) ?_
  refine z_get (v := .ref fa) C hz p0 zl7 mFX7_10 (by decide) rfl dX7_span_1 ?_
  refine z_callVv (As := []) C hz hS hA hl (k_X2_none l D cy f fa u1 u2 u3 ev p1 ) zyX2_none mMX7_76 p1 zl2 rfl rfl (Nat.le_of_ble_eq_true rfl) ⟨Nat.le_of_ble_eq_true rfl, Nat.le_of_ble_eq_true rfl⟩ ⟨Nat.le_of_ble_eq_true rfl, Nat.le_of_ble_eq_true rfl⟩ dX7_span_4 (fun  f1 H locs h2 hz hS => ?_)
  obtain ⟨a3, k4⟩ := h2
  refine lv_aload_n hx hb dX7_span_7 rfl (lv_at hl 0 rfl) ?_
  have a5 : f1 o = some (.inr (7, [.ref fa, .ref fi, .ref nu, .int 0, .ref fm, .int 0, .ref co, .int 0, .ref en, .ref ke, .long 1])) := k4 _ _ p0 (z_ne p0 p1 rfl)
  refine z_get (v := .ref fi) C hz a5 zl7 mFX7_19 (by decide) rfl dX7_span_8 ?_
  have a6 : f1 fi = some (.inr (5, [.ref al, .ref ra, .int 0])) := k4 _ _ p2 (z_ne p2 p1 rfl)
  refine z_callVi (As := []) C hz hS hA hl (k_X5_isFull l D cy f1 fi al ra a6 ) zyX5_isFull mMX7_79 a6 zl5 rfl rfl (Nat.le_of_ble_eq_true rfl) ⟨Nat.le_of_ble_eq_true rfl, Nat.le_of_ble_eq_true rfl⟩ ⟨Nat.le_of_ble_eq_true rfl, Nat.le_of_ble_eq_true rfl⟩ dX7_span_11 (fun r f7 H locs h8 hz hS => ?_)
  obtain ⟨rfl, k9⟩ := h8
  refine lv_if_eq (tgt := 20) hx hb dX7_span_14 (by decide) (fun c10 => ?_) (fun c10 => ?_)
  rotate_left
  · exact absurd c10 (by decide)
  refine lv_iload_n hx hb dX7_span_20 rfl (lv_at hl 1 rfl) ?_
  refine lv_iload_n hx hb dX7_span_21 rfl (lv_at hl 2 rfl) ?_
  refine lv_icmp_le (tgt := 35) hx hb dX7_span_22 (by decide) (fun c11 => ?_) (fun c11 => ?_)
  · refine lv_aload_n hx hb dX7_span_35 rfl (lv_at hl 0 rfl) ?_
    have a12 : f7 o = some (.inr (7, [.ref fa, .ref fi, .ref nu, .int 0, .ref fm, .int 0, .ref co, .int 0, .ref en, .ref ke, .long 1])) := k9 _ _ a5 
    refine z_get (v := .ref fi) C hz a12 zl7 mFX7_19 (by decide) rfl dX7_span_36 ?_
    refine z_new (fs := [.int 0, .null, .long 0, .int 0, .int 0, .int 0, .int 0]) C hz hS hA zl4 mLX7_83 mIa_RX4 mIn_RX4 (by decide +kernel) (Nat.le_of_ble_eq_true rfl) (Nat.le_of_ble_eq_true rfl) dX7_span_39 (fun q13 H f15 u14 a16 k17 hz hS => ?_)
    refine lv_dup hx hb dX7_span_42 rfl ?_
    refine lv_iconst (v := 1) hx hb dX7_span_43 (by decide) ?_
    refine lv_iconst (v := 2) hx hb dX7_span_44 (by decide) ?_
    refine z_newa (atype := .long) (t0 := 1) (N' := 2) (x := (.inr (.inl (fun _ => 0)))) C hz hS hA rfl mA_long rfl (fun _ => rfl) (by decide) (Nat.le_of_ble_eq_true rfl) (by decide) (Nat.le_of_ble_eq_true rfl) (Nat.le_of_ble_eq_true rfl) dX7_span_45 (fun q18 H f20 u19 a21 k22 hz hS => ?_)
    refine lv_dup hx hb dX7_span_47 rfl ?_
    refine lv_iconst (v := 0) hx hb dX7_span_48 (by decide) ?_
    refine lv_iload_n hx hb dX7_span_49 rfl (lv_at hl 1 rfl) ?_
    refine lv_i2l (v := x.toInt64) hx hb dX7_span_50 rfl ?_
    refine z_last 0 C hz hS a21 (by decide) (Nat.le_of_ble_eq_true rfl) (by omega) dX7_span_51 (fun H locs f23 a24 k25 hz hS => ?_)
    refine lv_dup hx hb dX7_span_52 rfl ?_
    refine lv_iconst (v := 1) hx hb dX7_span_53 (by decide) ?_
    refine lv_iload_n hx hb dX7_span_54 rfl (lv_at hl 2 rfl) ?_
    refine lv_i2l (v := y.toInt64) hx hb dX7_span_55 rfl ?_
    refine z_last 1 C hz hS a24 (by decide) (Nat.le_of_ble_eq_true rfl) (by omega) dX7_span_56 (fun H locs f26 a27 k28 hz hS => ?_)
    refine lv_iload_n hx hb dX7_span_57 rfl (lv_at hl 1 rfl) ?_
    refine lv_iload_n hx hb dX7_span_58 rfl (lv_at hl 2 rfl) ?_
    refine z_callSl (As := [.int x, .int y]) C hz hS hA hl (k_X7_lengthOf l D cy f26 x y  ) zyX7_lengthOf mMX7_100 rfl rfl (Nat.le_of_ble_eq_true rfl) ⟨Nat.le_of_ble_eq_true rfl, Nat.le_of_ble_eq_true rfl⟩ ⟨Nat.le_of_ble_eq_true rfl, Nat.le_of_ble_eq_true rfl⟩ dX7_span_59 (fun r31 f29 H locs h30 hz hS => ?_)
    have k32 := h30
    have a33 : f20 q13 = some (.inr (4, [.int 0, .null, .long 0, .int 0, .int 0, .int 0, .int 0])) := (k22 _ (z_nn u19 a16)).trans a16
    have a34 : f23 q13 = some (.inr (4, [.int 0, .null, .long 0, .int 0, .int 0, .int 0, .int 0])) := (k25 _ (z_nn u19 a16)).trans a33
    have a35 : f26 q13 = some (.inr (4, [.int 0, .null, .long 0, .int 0, .int 0, .int 0, .int 0])) := (k28 _ (z_nn u19 a16)).trans a34
    have a36 : f29 q13 = some (.inr (4, [.int 0, .null, .long 0, .int 0, .int 0, .int 0, .int 0])) := k32 _ _ a35 
    refine z_callIv (ret := none) (As := [.int 1, .ref q18, .long r31]) C hz hS hA hl (k_X4_init l D cy f29 q13 1 q18 r31 a36 ) zyX4_init mMX7_89 rfl rfl (Nat.le_of_ble_eq_true rfl) ⟨Nat.le_of_ble_eq_true rfl, Nat.le_of_ble_eq_true rfl⟩ ⟨Nat.le_of_ble_eq_true rfl, Nat.le_of_ble_eq_true rfl⟩ dX7_span_62 (fun  f37 H locs h38 hz hS => ?_)
    obtain ⟨a39, k40⟩ := h38
    have a41 : f7 fi = some (.inr (5, [.ref al, .ref ra, .int 0])) := k9 _ _ a6 
    have a42 : f15 fi = some (.inr (5, [.ref al, .ref ra, .int 0])) := (k17 _ (z_nn u14 a41)).trans a41
    have a43 : f20 fi = some (.inr (5, [.ref al, .ref ra, .int 0])) := (k22 _ (z_nn u19 a42)).trans a42
    have a44 : f23 fi = some (.inr (5, [.ref al, .ref ra, .int 0])) := (k25 _ (z_nn u19 a42)).trans a43
    have a45 : f26 fi = some (.inr (5, [.ref al, .ref ra, .int 0])) := (k28 _ (z_nn u19 a42)).trans a44
    have a46 : f29 fi = some (.inr (5, [.ref al, .ref ra, .int 0])) := k32 _ _ a45 
    have a47 : f37 fi = some (.inr (5, [.ref al, .ref ra, .int 0])) := k40 _ _ a46 (z_nn u14 a41)
    have a48 : f1 al = some (.inl (cy 3, 60, .inr (.inr (.inr (.inr ga))))) := k4 _ _ p3 (z_ne p3 p1 rfl)
    have a49 : f7 al = some (.inl (cy 3, 60, .inr (.inr (.inr (.inr ga))))) := k9 _ _ a48 
    have a50 : f15 al = some (.inl (cy 3, 60, .inr (.inr (.inr (.inr ga))))) := (k17 _ (z_nn u14 a49)).trans a49
    have a51 : f20 al = some (.inl (cy 3, 60, .inr (.inr (.inr (.inr ga))))) := (k22 _ (z_nn u19 a50)).trans a50
    have a52 : f23 al = some (.inl (cy 3, 60, .inr (.inr (.inr (.inr ga))))) := (k25 _ (z_nn u19 a50)).trans a51
    have a53 : f26 al = some (.inl (cy 3, 60, .inr (.inr (.inr (.inr ga))))) := (k28 _ (z_nn u19 a50)).trans a52
    have a54 : f29 al = some (.inl (cy 3, 60, .inr (.inr (.inr (.inr ga))))) := k32 _ _ a53 
    have a55 : f37 al = some (.inl (cy 3, 60, .inr (.inr (.inr (.inr ga))))) := k40 _ _ a54 (z_nn u14 a49)
    have a56 : f1 ra = some (.inl (cy 3, 60, .inr (.inr (.inr (.inr gr))))) := k4 _ _ p4 (z_ne p4 p1 rfl)
    have a57 : f7 ra = some (.inl (cy 3, 60, .inr (.inr (.inr (.inr gr))))) := k9 _ _ a56 
    have a58 : f15 ra = some (.inl (cy 3, 60, .inr (.inr (.inr (.inr gr))))) := (k17 _ (z_nn u14 a57)).trans a57
    have a59 : f20 ra = some (.inl (cy 3, 60, .inr (.inr (.inr (.inr gr))))) := (k22 _ (z_nn u19 a58)).trans a58
    have a60 : f23 ra = some (.inl (cy 3, 60, .inr (.inr (.inr (.inr gr))))) := (k25 _ (z_nn u19 a58)).trans a59
    have a61 : f26 ra = some (.inl (cy 3, 60, .inr (.inr (.inr (.inr gr))))) := (k28 _ (z_nn u19 a58)).trans a60
    have a62 : f29 ra = some (.inl (cy 3, 60, .inr (.inr (.inr (.inr gr))))) := k32 _ _ a61 
    have a63 : f37 ra = some (.inl (cy 3, 60, .inr (.inr (.inr (.inr gr))))) := k40 _ _ a62 (z_nn u14 a57)
    have a64 : f29 q18 = some (.inl (cy 1, 2, .inr (.inl (vp_updL (vp_updL (fun _ => 0) 0 x.toInt64) 1 y.toInt64)))) := k32 _ _ a27 
    have a65 : f37 q18 = some (.inl (cy 1, 2, .inr (.inl (vp_updL (vp_updL (fun _ => 0) 0 x.toInt64) 1 y.toInt64)))) := k40 _ _ a64 (Ne.symm (z_nn u19 a16))
    refine z_callVi (As := [.ref q13]) C hz hS hA hl (k_X5_add l D cy f37 fi al ra ga gr q13 1 q18 r31 0 (-1) 0 0 2 (vp_updL (vp_updL (fun _ => 0) 0 x.toInt64) 1 y.toInt64) a47 a55 a63 a39 a65 (by decide) (Nat.le_of_ble_eq_true rfl) har) zyX5_add mMX7_92 a47 zl5 rfl rfl (Nat.le_of_ble_eq_true rfl) ⟨Nat.le_of_ble_eq_true rfl, Nat.le_of_ble_eq_true rfl⟩ ⟨Nat.le_of_ble_eq_true rfl, Nat.le_of_ble_eq_true rfl⟩ dX7_span_65 (fun r f66 H locs h67 hz hS => ?_)
    obtain ⟨rfl, k68⟩ := h67
    exact z_iret C hr rfl hz hS ⟨(by simp [c10, c11]), (by
          intro b e hb n0 n1 n2 n3 n4
          have hb0 : f1 b = some e := k4 b e hb n0
          have hb1 : f7 b = some e := k9 b e hb0 
          have nn2 : b ≠ q13 := z_nn u14 hb1
          have hb2 : f15 b = some e := (k17 b nn2).trans hb1
          have nn3 : b ≠ q18 := z_nn u19 hb2
          have hb3 : f20 b = some e := (k22 b nn3).trans hb2
          have hb4 : f23 b = some e := (k25 b nn3).trans hb3
          have hb5 : f26 b = some e := (k28 b nn3).trans hb4
          have hb6 : f29 b = some e := k32 b e hb5 
          have hb7 : f37 b = some e := k40 b e hb6 nn2
          have hb8 : f66 b = some e := k68 b e hb7 n1 n2 n3 nn2
          exact hb8)⟩ (Nat.le_of_ble_eq_true rfl) (Nat.le_of_ble_eq_true rfl) dX7_span_68
  · refine lv_aload_n hx hb dX7_span_25 rfl (lv_at hl 0 rfl) ?_
    have a69 : f7 o = some (.inr (7, [.ref fa, .ref fi, .ref nu, .int 0, .ref fm, .int 0, .ref co, .int 0, .ref en, .ref ke, .long 1])) := k9 _ _ a5 
    refine z_get (v := .ref fa) C hz a69 zl7 mFX7_10 (by decide) rfl dX7_span_26 ?_
    refine lv_iconst (v := 1) hx hb dX7_span_29 (by decide) ?_
    refine lv_iconst (v := 1) hx hb dX7_span_30 (by decide) ?_
    have a70 : f7 fa = some (.inr (2, [.int 0, .int (-1), .int 0, .ref ev])) := k9 _ _ a3 
    have a71 : f1 ev = some (.inl (cy 0, 8, .inl g)) := k4 _ _ p5 (z_ne p5 p1 rfl)
    have a72 : f7 ev = some (.inl (cy 0, 8, .inl g)) := k9 _ _ a71 
    refine z_callVi (As := [.int 1, .int 1]) C hz hS hA hl (k_X2_own l D cy f7 fa 1 1 0 (-1) 0 ev g a70 a72 ) zyX2_own mMX7_96 a70 zl2 rfl rfl (Nat.le_of_ble_eq_true rfl) ⟨Nat.le_of_ble_eq_true rfl, Nat.le_of_ble_eq_true rfl⟩ ⟨Nat.le_of_ble_eq_true rfl, Nat.le_of_ble_eq_true rfl⟩ dX7_span_31 (fun r f73 H locs h74 hz hS => ?_)
    obtain ⟨rfl, a75, a76, k77⟩ := h74
    exact z_iret C hr rfl hz hS ⟨(by simp [c10, c11]), (by
          intro b e hb n0 n1 n2 n3 n4
          have hb0 : f1 b = some e := k4 b e hb n0
          have hb1 : f7 b = some e := k9 b e hb0 
          have hb2 : f73 b = some e := k77 b e hb1 n0 n4
          exact hb2)⟩ (Nat.le_of_ble_eq_true rfl) (Nat.le_of_ble_eq_true rfl) dX7_span_34
abbrev rmX7_wide : Room := { frames := 2, cells := 2, slots := 10, locals := 48 }
set_option maxHeartbeats 4000000 in
set_option maxRecDepth 100000 in
theorem k_X7_wide (l : Launch) (D : va_G) (cy : Nat → ClassId) (f : zM) (o : Nat) (fa : Nat) (fi : Nat) (nu : Nat) (fm : Nat) (co : Nat) (en : Nat) (ke : Nat) (x : Int32) (y : Int32) (z : Int32) (u1 : Int32) (u2 : Int32) (u3 : Int32) (ev : Nat) (al : Nat) (ra : Nat) (ga : Nat → Option Nat) (gr : Nat → Option Nat) (g : Nat → Int32) (p0 : f o = some (.inr (7, [.ref fa, .ref fi, .ref nu, .int 0, .ref fm, .int 0, .ref co, .int 0, .ref en, .ref ke, .long 1]))) (p1 : f fa = some (.inr (2, [.int u1, .int u2, .int u3, .ref ev]))) (p2 : f fi = some (.inr (5, [.ref al, .ref ra, .int 0]))) (p3 : f al = some (.inl (cy 3, 60, .inr (.inr (.inr (.inr ga)))))) (p4 : f ra = some (.inl (cy 3, 60, .inr (.inr (.inr (.inr gr)))))) (p5 : f ev = some (.inl (cy 0, 8, .inl g))) (har : al ≠ ra) : zCi l D cy yX7_wide cX7_wide 6 (Option.some Jvm.ClassFile.FieldType.int) rmX7_wide [.ref o, .int x, .int y, .int z] f (fun (r : Int32) (f1 : zM) => r = (if x ≤ y then (if z = 0 then (-4) else if y - x - (y - x) / z * z = 0 then 0 else (-4)) else (-4)) ∧ (∀ (b : Nat) (e : va_E), f b = some e → b ≠ fa → b ≠ fi → b ≠ al → b ≠ ra → b ≠ ev → f1 b = some e)) := by
  intro sz
  refine z_body (by decide +kernel) (Nat.le_of_ble_eq_true rfl) ?_
  intro p e s m below meth c ls C hr hin hsz hz hl
  subst hsz
  have hx := C.1
  have hb := C.2.1
  have hA : ∀ q, s.heap.size ≤ q → zA f s.heap.size q := fun q h => Or.inr h
  have hS : va_S (zA f s.heap.size) s.heap s.heap [] := va_S.rf
  have hl : lv_has ls 6 [(0, .ref o), (1, .int x), (2, .int y), (3, .int z)] := hl
  refine lv_aload_n hx hb dX7_wide_0 rfl (lv_at hl 0 rfl) ?_
  refine z_get (v := .ref fa) C hz p0 zl7 mFX7_10 (by decide) rfl dX7_wide_1 ?_
  refine z_callVv (As := []) C hz hS hA hl (k_X2_none l D cy f fa u1 u2 u3 ev p1 ) zyX2_none mMX7_76 p1 zl2 rfl rfl (Nat.le_of_ble_eq_true rfl) ⟨Nat.le_of_ble_eq_true rfl, Nat.le_of_ble_eq_true rfl⟩ ⟨Nat.le_of_ble_eq_true rfl, Nat.le_of_ble_eq_true rfl⟩ dX7_wide_4 (fun  f1 H locs h2 hz hS => ?_)
  obtain ⟨a3, k4⟩ := h2
  refine lv_aload_n hx hb dX7_wide_7 rfl (lv_at hl 0 rfl) ?_
  have a5 : f1 o = some (.inr (7, [.ref fa, .ref fi, .ref nu, .int 0, .ref fm, .int 0, .ref co, .int 0, .ref en, .ref ke, .long 1])) := k4 _ _ p0 (z_ne p0 p1 rfl)
  refine z_get (v := .ref fi) C hz a5 zl7 mFX7_19 (by decide) rfl dX7_wide_8 ?_
  have a6 : f1 fi = some (.inr (5, [.ref al, .ref ra, .int 0])) := k4 _ _ p2 (z_ne p2 p1 rfl)
  refine z_callVi (As := []) C hz hS hA hl (k_X5_isFull l D cy f1 fi al ra a6 ) zyX5_isFull mMX7_79 a6 zl5 rfl rfl (Nat.le_of_ble_eq_true rfl) ⟨Nat.le_of_ble_eq_true rfl, Nat.le_of_ble_eq_true rfl⟩ ⟨Nat.le_of_ble_eq_true rfl, Nat.le_of_ble_eq_true rfl⟩ dX7_wide_11 (fun r f7 H locs h8 hz hS => ?_)
  obtain ⟨rfl, k9⟩ := h8
  refine lv_if_eq (tgt := 20) hx hb dX7_wide_14 (by decide) (fun c10 => ?_) (fun c10 => ?_)
  rotate_left
  · exact absurd c10 (by decide)
  refine lv_iload_n hx hb dX7_wide_20 rfl (lv_at hl 1 rfl) ?_
  refine lv_iload_n hx hb dX7_wide_21 rfl (lv_at hl 2 rfl) ?_
  refine lv_icmp_le (tgt := 35) hx hb dX7_wide_22 (by decide) (fun c11 => ?_) (fun c11 => ?_)
  · refine lv_iload_n hx hb dX7_wide_35 rfl (lv_at hl 3 rfl) ?_
    refine lv_if_ne (tgt := 50) hx hb dX7_wide_36 (by decide) (fun c12 => ?_) (fun c12 => ?_)
    · refine lv_iload_n hx hb dX7_wide_50 rfl (lv_at hl 2 rfl) ?_
      refine lv_iload_n hx hb dX7_wide_51 rfl (lv_at hl 1 rfl) ?_
      refine lv_isub hx hb dX7_wide_52 ?_
      refine lv_iload_n hx hb dX7_wide_53 rfl (lv_at hl 3 rfl) ?_
      refine lv_irem hx hb dX7_wide_54 c12 ?_
      refine lv_if_eq (tgt := 68) hx hb dX7_wide_55 (by decide) (fun c13 => ?_) (fun c13 => ?_)
      · refine lv_iload_n hx hb dX7_wide_68 rfl (lv_at hl 1 rfl) ?_
        refine lv_iload_n hx hb dX7_wide_69 rfl (lv_at hl 2 rfl) ?_
        refine z_callSl (As := [.int x, .int y]) C hz hS hA hl (k_X7_lengthOf l D cy f7 x y  ) zyX7_lengthOf mMX7_100 rfl rfl (Nat.le_of_ble_eq_true rfl) ⟨Nat.le_of_ble_eq_true rfl, Nat.le_of_ble_eq_true rfl⟩ ⟨Nat.le_of_ble_eq_true rfl, Nat.le_of_ble_eq_true rfl⟩ dX7_wide_70 (fun r16 f14 H locs h15 hz hS => ?_)
        have k17 := h15
        refine lv_iload_n hx hb dX7_wide_73 rfl (lv_at hl 3 rfl) ?_
        refine lv_i2l (v := z.toInt64) hx hb dX7_wide_74 rfl ?_
        refine va_mabs_long hx hb (by rw [C.2.2.1]; exact hl.1.symm) C.2.2.2.1 (C.2.2.2.2.1 _ mMX7_107) (C.2.2.2.2.1 _ mS_yAbs) (C.2.2.2.2.1 _ mIn_RJ9) (C.2.2.2.2.1 _ mC_yAbs) (Nat.le_of_ble_eq_true rfl) (Nat.le_of_ble_eq_true rfl) (Nat.le_of_ble_eq_true rfl) (Nat.le_of_ble_eq_true rfl) dX7_wide_75 ?_
        refine lv_ldiv hx hb dX7_wide_78 (z_absne c12) ?_
        refine lv_lconst (v := 1) hx hb dX7_wide_79 (by decide) ?_
        refine lv_ladd hx hb dX7_wide_80 ?_
        refine lv_lstore (lv' := [(4, .long ((r16 / (if 0 < z.toInt64 then z.toInt64 else -z.toInt64)) + 1)), (0, .ref o), (1, .int x), (2, .int y), (3, .int z)]) hx hb dX7_wide_81 hl (by decide) rfl (fun ls hl => ?_)
        refine lv_aload_n hx hb dX7_wide_83 rfl (lv_at hl 1 rfl) ?_
        have a18 : f7 o = some (.inr (7, [.ref fa, .ref fi, .ref nu, .int 0, .ref fm, .int 0, .ref co, .int 0, .ref en, .ref ke, .long 1])) := k9 _ _ a5 
        have a19 : f14 o = some (.inr (7, [.ref fa, .ref fi, .ref nu, .int 0, .ref fm, .int 0, .ref co, .int 0, .ref en, .ref ke, .long 1])) := k17 _ _ a18 
        refine z_get (v := .ref fi) C hz a19 zl7 mFX7_19 (by decide) rfl dX7_wide_84 ?_
        refine z_new (fs := [.int 0, .null, .long 0, .int 0, .int 0, .int 0, .int 0]) C hz hS hA zl4 mLX7_83 mIa_RX4 mIn_RX4 (by decide +kernel) (Nat.le_of_ble_eq_true rfl) (Nat.le_of_ble_eq_true rfl) dX7_wide_87 (fun q20 H f22 u21 a23 k24 hz hS => ?_)
        refine lv_dup hx hb dX7_wide_90 rfl ?_
        refine lv_iconst (v := 2) hx hb dX7_wide_91 (by decide) ?_
        refine lv_iconst (v := 3) hx hb dX7_wide_92 (by decide) ?_
        refine z_newa (atype := .long) (t0 := 1) (N' := 3) (x := (.inr (.inl (fun _ => 0)))) C hz hS hA rfl mA_long rfl (fun _ => rfl) (by decide) (Nat.le_of_ble_eq_true rfl) (by decide) (Nat.le_of_ble_eq_true rfl) (Nat.le_of_ble_eq_true rfl) dX7_wide_93 (fun q25 H f27 u26 a28 k29 hz hS => ?_)
        refine lv_dup hx hb dX7_wide_95 rfl ?_
        refine lv_iconst (v := 0) hx hb dX7_wide_96 (by decide) ?_
        refine lv_iload_n hx hb dX7_wide_97 rfl (lv_at hl 2 rfl) ?_
        refine lv_i2l (v := x.toInt64) hx hb dX7_wide_98 rfl ?_
        refine z_last 0 C hz hS a28 (by decide) (Nat.le_of_ble_eq_true rfl) (by omega) dX7_wide_99 (fun H locs f30 a31 k32 hz hS => ?_)
        refine lv_dup hx hb dX7_wide_100 rfl ?_
        refine lv_iconst (v := 1) hx hb dX7_wide_101 (by decide) ?_
        refine lv_iload_n hx hb dX7_wide_102 rfl (lv_at hl 3 rfl) ?_
        refine lv_i2l (v := y.toInt64) hx hb dX7_wide_103 rfl ?_
        refine z_last 1 C hz hS a31 (by decide) (Nat.le_of_ble_eq_true rfl) (by omega) dX7_wide_104 (fun H locs f33 a34 k35 hz hS => ?_)
        refine lv_dup hx hb dX7_wide_105 rfl ?_
        refine lv_iconst (v := 2) hx hb dX7_wide_106 (by decide) ?_
        refine lv_iload_n hx hb dX7_wide_107 rfl (lv_at hl 4 rfl) ?_
        refine lv_i2l (v := z.toInt64) hx hb dX7_wide_108 rfl ?_
        refine z_last 2 C hz hS a34 (by decide) (Nat.le_of_ble_eq_true rfl) (by omega) dX7_wide_109 (fun H locs f36 a37 k38 hz hS => ?_)
        refine lv_lload hx hb dX7_wide_110 (lv_at hl 0 rfl) ?_
        have a39 : f27 q20 = some (.inr (4, [.int 0, .null, .long 0, .int 0, .int 0, .int 0, .int 0])) := (k29 _ (z_nn u26 a23)).trans a23
        have a40 : f30 q20 = some (.inr (4, [.int 0, .null, .long 0, .int 0, .int 0, .int 0, .int 0])) := (k32 _ (z_nn u26 a23)).trans a39
        have a41 : f33 q20 = some (.inr (4, [.int 0, .null, .long 0, .int 0, .int 0, .int 0, .int 0])) := (k35 _ (z_nn u26 a23)).trans a40
        have a42 : f36 q20 = some (.inr (4, [.int 0, .null, .long 0, .int 0, .int 0, .int 0, .int 0])) := (k38 _ (z_nn u26 a23)).trans a41
        refine z_callIv (ret := none) (As := [.int 2, .ref q25, .long ((r16 / (if 0 < z.toInt64 then z.toInt64 else -z.toInt64)) + 1)]) C hz hS hA hl (k_X4_init l D cy f36 q20 2 q25 ((r16 / (if 0 < z.toInt64 then z.toInt64 else -z.toInt64)) + 1) a42 ) zyX4_init mMX7_89 rfl rfl (Nat.le_of_ble_eq_true rfl) ⟨Nat.le_of_ble_eq_true rfl, Nat.le_of_ble_eq_true rfl⟩ ⟨Nat.le_of_ble_eq_true rfl, Nat.le_of_ble_eq_true rfl⟩ dX7_wide_112 (fun  f43 H locs h44 hz hS => ?_)
        obtain ⟨a45, k46⟩ := h44
        have a47 : f7 fi = some (.inr (5, [.ref al, .ref ra, .int 0])) := k9 _ _ a6 
        have a48 : f14 fi = some (.inr (5, [.ref al, .ref ra, .int 0])) := k17 _ _ a47 
        have a49 : f22 fi = some (.inr (5, [.ref al, .ref ra, .int 0])) := (k24 _ (z_nn u21 a48)).trans a48
        have a50 : f27 fi = some (.inr (5, [.ref al, .ref ra, .int 0])) := (k29 _ (z_nn u26 a49)).trans a49
        have a51 : f30 fi = some (.inr (5, [.ref al, .ref ra, .int 0])) := (k32 _ (z_nn u26 a49)).trans a50
        have a52 : f33 fi = some (.inr (5, [.ref al, .ref ra, .int 0])) := (k35 _ (z_nn u26 a49)).trans a51
        have a53 : f36 fi = some (.inr (5, [.ref al, .ref ra, .int 0])) := (k38 _ (z_nn u26 a49)).trans a52
        have a54 : f43 fi = some (.inr (5, [.ref al, .ref ra, .int 0])) := k46 _ _ a53 (z_nn u21 a48)
        have a55 : f1 al = some (.inl (cy 3, 60, .inr (.inr (.inr (.inr ga))))) := k4 _ _ p3 (z_ne p3 p1 rfl)
        have a56 : f7 al = some (.inl (cy 3, 60, .inr (.inr (.inr (.inr ga))))) := k9 _ _ a55 
        have a57 : f14 al = some (.inl (cy 3, 60, .inr (.inr (.inr (.inr ga))))) := k17 _ _ a56 
        have a58 : f22 al = some (.inl (cy 3, 60, .inr (.inr (.inr (.inr ga))))) := (k24 _ (z_nn u21 a57)).trans a57
        have a59 : f27 al = some (.inl (cy 3, 60, .inr (.inr (.inr (.inr ga))))) := (k29 _ (z_nn u26 a58)).trans a58
        have a60 : f30 al = some (.inl (cy 3, 60, .inr (.inr (.inr (.inr ga))))) := (k32 _ (z_nn u26 a58)).trans a59
        have a61 : f33 al = some (.inl (cy 3, 60, .inr (.inr (.inr (.inr ga))))) := (k35 _ (z_nn u26 a58)).trans a60
        have a62 : f36 al = some (.inl (cy 3, 60, .inr (.inr (.inr (.inr ga))))) := (k38 _ (z_nn u26 a58)).trans a61
        have a63 : f43 al = some (.inl (cy 3, 60, .inr (.inr (.inr (.inr ga))))) := k46 _ _ a62 (z_nn u21 a57)
        have a64 : f1 ra = some (.inl (cy 3, 60, .inr (.inr (.inr (.inr gr))))) := k4 _ _ p4 (z_ne p4 p1 rfl)
        have a65 : f7 ra = some (.inl (cy 3, 60, .inr (.inr (.inr (.inr gr))))) := k9 _ _ a64 
        have a66 : f14 ra = some (.inl (cy 3, 60, .inr (.inr (.inr (.inr gr))))) := k17 _ _ a65 
        have a67 : f22 ra = some (.inl (cy 3, 60, .inr (.inr (.inr (.inr gr))))) := (k24 _ (z_nn u21 a66)).trans a66
        have a68 : f27 ra = some (.inl (cy 3, 60, .inr (.inr (.inr (.inr gr))))) := (k29 _ (z_nn u26 a67)).trans a67
        have a69 : f30 ra = some (.inl (cy 3, 60, .inr (.inr (.inr (.inr gr))))) := (k32 _ (z_nn u26 a67)).trans a68
        have a70 : f33 ra = some (.inl (cy 3, 60, .inr (.inr (.inr (.inr gr))))) := (k35 _ (z_nn u26 a67)).trans a69
        have a71 : f36 ra = some (.inl (cy 3, 60, .inr (.inr (.inr (.inr gr))))) := (k38 _ (z_nn u26 a67)).trans a70
        have a72 : f43 ra = some (.inl (cy 3, 60, .inr (.inr (.inr (.inr gr))))) := k46 _ _ a71 (z_nn u21 a66)
        have a73 : f43 q25 = some (.inl (cy 1, 3, .inr (.inl (vp_updL (vp_updL (vp_updL (fun _ => 0) 0 x.toInt64) 1 y.toInt64) 2 z.toInt64)))) := k46 _ _ a37 (Ne.symm (z_nn u26 a23))
        refine z_callVi (As := [.ref q20]) C hz hS hA hl (k_X5_add l D cy f43 fi al ra ga gr q20 2 q25 ((r16 / (if 0 < z.toInt64 then z.toInt64 else -z.toInt64)) + 1) 0 (-1) 0 0 3 (vp_updL (vp_updL (vp_updL (fun _ => 0) 0 x.toInt64) 1 y.toInt64) 2 z.toInt64) a54 a63 a72 a45 a73 (by decide) (Nat.le_of_ble_eq_true rfl) har) zyX5_add mMX7_92 a54 zl5 rfl rfl (Nat.le_of_ble_eq_true rfl) ⟨Nat.le_of_ble_eq_true rfl, Nat.le_of_ble_eq_true rfl⟩ ⟨Nat.le_of_ble_eq_true rfl, Nat.le_of_ble_eq_true rfl⟩ dX7_wide_115 (fun r f74 H locs h75 hz hS => ?_)
        obtain ⟨rfl, k76⟩ := h75
        exact z_iret C hr rfl hz hS ⟨(by simp [c10, c11, c12, c13]), (by
              intro b e hb n0 n1 n2 n3 n4
              have hb0 : f1 b = some e := k4 b e hb n0
              have hb1 : f7 b = some e := k9 b e hb0 
              have hb2 : f14 b = some e := k17 b e hb1 
              have nn3 : b ≠ q20 := z_nn u21 hb2
              have hb3 : f22 b = some e := (k24 b nn3).trans hb2
              have nn4 : b ≠ q25 := z_nn u26 hb3
              have hb4 : f27 b = some e := (k29 b nn4).trans hb3
              have hb5 : f30 b = some e := (k32 b nn4).trans hb4
              have hb6 : f33 b = some e := (k35 b nn4).trans hb5
              have hb7 : f36 b = some e := (k38 b nn4).trans hb6
              have hb8 : f43 b = some e := k46 b e hb7 nn3
              have hb9 : f74 b = some e := k76 b e hb8 n1 n2 n3 nn3
              exact hb9)⟩ (Nat.le_of_ble_eq_true rfl) (Nat.le_of_ble_eq_true rfl) dX7_wide_118
      · refine lv_aload_n hx hb dX7_wide_58 rfl (lv_at hl 0 rfl) ?_
        have a77 : f7 o = some (.inr (7, [.ref fa, .ref fi, .ref nu, .int 0, .ref fm, .int 0, .ref co, .int 0, .ref en, .ref ke, .long 1])) := k9 _ _ a5 
        refine z_get (v := .ref fa) C hz a77 zl7 mFX7_10 (by decide) rfl dX7_wide_59 ?_
        refine lv_iconst (v := 2) hx hb dX7_wide_62 (by decide) ?_
        refine lv_iconst (v := 2) hx hb dX7_wide_63 (by decide) ?_
        have a78 : f7 fa = some (.inr (2, [.int 0, .int (-1), .int 0, .ref ev])) := k9 _ _ a3 
        have a79 : f1 ev = some (.inl (cy 0, 8, .inl g)) := k4 _ _ p5 (z_ne p5 p1 rfl)
        have a80 : f7 ev = some (.inl (cy 0, 8, .inl g)) := k9 _ _ a79 
        refine z_callVi (As := [.int 2, .int 2]) C hz hS hA hl (k_X2_own l D cy f7 fa 2 2 0 (-1) 0 ev g a78 a80 ) zyX2_own mMX7_96 a78 zl2 rfl rfl (Nat.le_of_ble_eq_true rfl) ⟨Nat.le_of_ble_eq_true rfl, Nat.le_of_ble_eq_true rfl⟩ ⟨Nat.le_of_ble_eq_true rfl, Nat.le_of_ble_eq_true rfl⟩ dX7_wide_64 (fun r f81 H locs h82 hz hS => ?_)
        obtain ⟨rfl, a83, a84, k85⟩ := h82
        exact z_iret C hr rfl hz hS ⟨(by simp [c10, c11, c12, c13]), (by
              intro b e hb n0 n1 n2 n3 n4
              have hb0 : f1 b = some e := k4 b e hb n0
              have hb1 : f7 b = some e := k9 b e hb0 
              have hb2 : f81 b = some e := k85 b e hb1 n0 n4
              exact hb2)⟩ (Nat.le_of_ble_eq_true rfl) (Nat.le_of_ble_eq_true rfl) dX7_wide_67
    · refine lv_aload_n hx hb dX7_wide_39 rfl (lv_at hl 0 rfl) ?_
      have a86 : f7 o = some (.inr (7, [.ref fa, .ref fi, .ref nu, .int 0, .ref fm, .int 0, .ref co, .int 0, .ref en, .ref ke, .long 1])) := k9 _ _ a5 
      refine z_get (v := .ref fa) C hz a86 zl7 mFX7_10 (by decide) rfl dX7_wide_40 ?_
      refine lv_bipush (v := 6) hx hb dX7_wide_43 (by decide) ?_
      refine lv_iconst (v := 2) hx hb dX7_wide_45 (by decide) ?_
      have a87 : f7 fa = some (.inr (2, [.int 0, .int (-1), .int 0, .ref ev])) := k9 _ _ a3 
      have a88 : f1 ev = some (.inl (cy 0, 8, .inl g)) := k4 _ _ p5 (z_ne p5 p1 rfl)
      have a89 : f7 ev = some (.inl (cy 0, 8, .inl g)) := k9 _ _ a88 
      refine z_callVi (As := [.int 6, .int 2]) C hz hS hA hl (k_X2_inPart l D cy f7 fa 6 2 0 (-1) 0 ev g 6 a87 a89 (by decide) (Nat.le_of_ble_eq_true rfl)) zyX2_inPart mMX7_104 a87 zl2 rfl rfl (Nat.le_of_ble_eq_true rfl) ⟨Nat.le_of_ble_eq_true rfl, Nat.le_of_ble_eq_true rfl⟩ ⟨Nat.le_of_ble_eq_true rfl, Nat.le_of_ble_eq_true rfl⟩ dX7_wide_46 (fun r f90 H locs h91 hz hS => ?_)
      obtain ⟨rfl, a92, a93, k94⟩ := h91
      exact z_iret C hr rfl hz hS ⟨(by simp [c10, c11, c12]), (by
            intro b e hb n0 n1 n2 n3 n4
            have hb0 : f1 b = some e := k4 b e hb n0
            have hb1 : f7 b = some e := k9 b e hb0 
            have hb2 : f90 b = some e := k94 b e hb1 n0 n4
            exact hb2)⟩ (Nat.le_of_ble_eq_true rfl) (Nat.le_of_ble_eq_true rfl) dX7_wide_49
  · refine lv_aload_n hx hb dX7_wide_25 rfl (lv_at hl 0 rfl) ?_
    have a95 : f7 o = some (.inr (7, [.ref fa, .ref fi, .ref nu, .int 0, .ref fm, .int 0, .ref co, .int 0, .ref en, .ref ke, .long 1])) := k9 _ _ a5 
    refine z_get (v := .ref fa) C hz a95 zl7 mFX7_10 (by decide) rfl dX7_wide_26 ?_
    refine lv_iconst (v := 1) hx hb dX7_wide_29 (by decide) ?_
    refine lv_iconst (v := 1) hx hb dX7_wide_30 (by decide) ?_
    have a96 : f7 fa = some (.inr (2, [.int 0, .int (-1), .int 0, .ref ev])) := k9 _ _ a3 
    have a97 : f1 ev = some (.inl (cy 0, 8, .inl g)) := k4 _ _ p5 (z_ne p5 p1 rfl)
    have a98 : f7 ev = some (.inl (cy 0, 8, .inl g)) := k9 _ _ a97 
    refine z_callVi (As := [.int 1, .int 1]) C hz hS hA hl (k_X2_own l D cy f7 fa 1 1 0 (-1) 0 ev g a96 a98 ) zyX2_own mMX7_96 a96 zl2 rfl rfl (Nat.le_of_ble_eq_true rfl) ⟨Nat.le_of_ble_eq_true rfl, Nat.le_of_ble_eq_true rfl⟩ ⟨Nat.le_of_ble_eq_true rfl, Nat.le_of_ble_eq_true rfl⟩ dX7_wide_31 (fun r f99 H locs h100 hz hS => ?_)
    obtain ⟨rfl, a101, a102, k103⟩ := h100
    exact z_iret C hr rfl hz hS ⟨(by simp [c10, c11]), (by
          intro b e hb n0 n1 n2 n3 n4
          have hb0 : f1 b = some e := k4 b e hb n0
          have hb1 : f7 b = some e := k9 b e hb0 
          have hb2 : f99 b = some e := k103 b e hb1 n0 n4
          exact hb2)⟩ (Nat.le_of_ble_eq_true rfl) (Nat.le_of_ble_eq_true rfl) dX7_wide_34
abbrev rmX7_share : Room := { frames := 2, cells := 2, slots := 10, locals := 48 }
set_option maxHeartbeats 4000000 in
set_option maxRecDepth 100000 in
theorem k_X7_share (l : Launch) (D : va_G) (cy : Nat → ClassId) (f : zM) (o : Nat) (fa : Nat) (fi : Nat) (nu : Nat) (fm : Nat) (co : Nat) (en : Nat) (ke : Nat) (x : Int64) (y : Int64) (u1 : Int32) (u2 : Int32) (u3 : Int32) (ev : Nat) (al : Nat) (ra : Nat) (ga : Nat → Option Nat) (gr : Nat → Option Nat) (g : Nat → Int32) (p0 : f o = some (.inr (7, [.ref fa, .ref fi, .ref nu, .int 0, .ref fm, .int 0, .ref co, .int 0, .ref en, .ref ke, .long 1]))) (p1 : f fa = some (.inr (2, [.int u1, .int u2, .int u3, .ref ev]))) (p2 : f fi = some (.inr (5, [.ref al, .ref ra, .int 0]))) (p3 : f al = some (.inl (cy 3, 60, .inr (.inr (.inr (.inr ga)))))) (p4 : f ra = some (.inl (cy 3, 60, .inr (.inr (.inr (.inr gr)))))) (p5 : f ev = some (.inl (cy 0, 8, .inl g))) (har : al ≠ ra) : zCi l D cy yX7_share cX7_share 7 (Option.some Jvm.ClassFile.FieldType.int) rmX7_share [.ref o, .long x, .long y] f (fun (r : Int32) (f1 : zM) => r = (if y = 0 then (-4) else 0) ∧ (∀ (b : Nat) (e : va_E), f b = some e → b ≠ fa → b ≠ fi → b ≠ al → b ≠ ra → b ≠ ev → f1 b = some e)) := by
  intro sz
  refine z_body (by decide +kernel) (Nat.le_of_ble_eq_true rfl) ?_
  intro p e s m below meth c ls C hr hin hsz hz hl
  subst hsz
  have hx := C.1
  have hb := C.2.1
  have hA : ∀ q, s.heap.size ≤ q → zA f s.heap.size q := fun q h => Or.inr h
  have hS : va_S (zA f s.heap.size) s.heap s.heap [] := va_S.rf
  have hl : lv_has ls 7 [(0, .ref o), (1, .long x), (3, .long y)] := hl
  refine lv_aload_n hx hb dX7_share_0 rfl (lv_at hl 0 rfl) ?_
  refine z_get (v := .ref fa) C hz p0 zl7 mFX7_10 (by decide) rfl dX7_share_1 ?_
  refine z_callVv (As := []) C hz hS hA hl (k_X2_none l D cy f fa u1 u2 u3 ev p1 ) zyX2_none mMX7_76 p1 zl2 rfl rfl (Nat.le_of_ble_eq_true rfl) ⟨Nat.le_of_ble_eq_true rfl, Nat.le_of_ble_eq_true rfl⟩ ⟨Nat.le_of_ble_eq_true rfl, Nat.le_of_ble_eq_true rfl⟩ dX7_share_4 (fun  f1 H locs h2 hz hS => ?_)
  obtain ⟨a3, k4⟩ := h2
  refine lv_aload_n hx hb dX7_share_7 rfl (lv_at hl 0 rfl) ?_
  have a5 : f1 o = some (.inr (7, [.ref fa, .ref fi, .ref nu, .int 0, .ref fm, .int 0, .ref co, .int 0, .ref en, .ref ke, .long 1])) := k4 _ _ p0 (z_ne p0 p1 rfl)
  refine z_get (v := .ref fi) C hz a5 zl7 mFX7_19 (by decide) rfl dX7_share_8 ?_
  have a6 : f1 fi = some (.inr (5, [.ref al, .ref ra, .int 0])) := k4 _ _ p2 (z_ne p2 p1 rfl)
  refine z_callVi (As := []) C hz hS hA hl (k_X5_isFull l D cy f1 fi al ra a6 ) zyX5_isFull mMX7_79 a6 zl5 rfl rfl (Nat.le_of_ble_eq_true rfl) ⟨Nat.le_of_ble_eq_true rfl, Nat.le_of_ble_eq_true rfl⟩ ⟨Nat.le_of_ble_eq_true rfl, Nat.le_of_ble_eq_true rfl⟩ dX7_share_11 (fun r f7 H locs h8 hz hS => ?_)
  obtain ⟨rfl, k9⟩ := h8
  refine lv_if_eq (tgt := 20) hx hb dX7_share_14 (by decide) (fun c10 => ?_) (fun c10 => ?_)
  rotate_left
  · exact absurd c10 (by decide)
  refine lv_lload_n hx hb dX7_share_20 rfl (lv_at hl 2 rfl) ?_
  refine lv_lconst (v := 0) hx hb dX7_share_21 (by decide) ?_
  refine W.lcmp hx hb dX7_share_22 ?_
  refine lv_if_ne (tgt := 37) hx hb dX7_share_23 (by decide) (fun c11 => ?_) (fun c11 => ?_)
  · refine lv_lload_n hx hb dX7_share_37 rfl (lv_at hl 1 rfl) ?_
    refine lv_lload_n hx hb dX7_share_38 rfl (lv_at hl 2 rfl) ?_
    refine lv_ldiv hx hb dX7_share_39 (fun h => c11 ((lg_cmp_eq y 0).mpr h)) ?_
    refine lv_lstore (lv' := [(5, .long (x / y)), (0, .ref o), (1, .long x), (3, .long y)]) hx hb dX7_share_40 hl (by decide) rfl (fun ls hl => ?_)
    refine lv_aload_n hx hb dX7_share_42 rfl (lv_at hl 1 rfl) ?_
    have a12 : f7 o = some (.inr (7, [.ref fa, .ref fi, .ref nu, .int 0, .ref fm, .int 0, .ref co, .int 0, .ref en, .ref ke, .long 1])) := k9 _ _ a5 
    refine z_get (v := .ref fi) C hz a12 zl7 mFX7_19 (by decide) rfl dX7_share_43 ?_
    refine z_new (fs := [.int 0, .null, .long 0, .int 0, .int 0, .int 0, .int 0]) C hz hS hA zl4 mLX7_83 mIa_RX4 mIn_RX4 (by decide +kernel) (Nat.le_of_ble_eq_true rfl) (Nat.le_of_ble_eq_true rfl) dX7_share_46 (fun q13 H f15 u14 a16 k17 hz hS => ?_)
    refine lv_dup hx hb dX7_share_49 rfl ?_
    refine lv_iconst (v := 3) hx hb dX7_share_50 (by decide) ?_
    refine lv_iconst (v := 3) hx hb dX7_share_51 (by decide) ?_
    refine z_newa (atype := .long) (t0 := 1) (N' := 3) (x := (.inr (.inl (fun _ => 0)))) C hz hS hA rfl mA_long rfl (fun _ => rfl) (by decide) (Nat.le_of_ble_eq_true rfl) (by decide) (Nat.le_of_ble_eq_true rfl) (Nat.le_of_ble_eq_true rfl) dX7_share_52 (fun q18 H f20 u19 a21 k22 hz hS => ?_)
    refine lv_dup hx hb dX7_share_54 rfl ?_
    refine lv_iconst (v := 0) hx hb dX7_share_55 (by decide) ?_
    refine lv_lload_n hx hb dX7_share_56 rfl (lv_at hl 2 rfl) ?_
    refine z_last 0 C hz hS a21 (by decide) (Nat.le_of_ble_eq_true rfl) (by omega) dX7_share_57 (fun H locs f23 a24 k25 hz hS => ?_)
    refine lv_dup hx hb dX7_share_58 rfl ?_
    refine lv_iconst (v := 1) hx hb dX7_share_59 (by decide) ?_
    refine lv_lload_n hx hb dX7_share_60 rfl (lv_at hl 3 rfl) ?_
    refine z_last 1 C hz hS a24 (by decide) (Nat.le_of_ble_eq_true rfl) (by omega) dX7_share_61 (fun H locs f26 a27 k28 hz hS => ?_)
    refine lv_dup hx hb dX7_share_62 rfl ?_
    refine lv_iconst (v := 2) hx hb dX7_share_63 (by decide) ?_
    refine lv_lload hx hb dX7_share_64 (lv_at hl 0 rfl) ?_
    refine z_last 2 C hz hS a27 (by decide) (Nat.le_of_ble_eq_true rfl) (by omega) dX7_share_66 (fun H locs f29 a30 k31 hz hS => ?_)
    refine lv_lload hx hb dX7_share_67 (lv_at hl 0 rfl) ?_
    have a32 : f20 q13 = some (.inr (4, [.int 0, .null, .long 0, .int 0, .int 0, .int 0, .int 0])) := (k22 _ (z_nn u19 a16)).trans a16
    have a33 : f23 q13 = some (.inr (4, [.int 0, .null, .long 0, .int 0, .int 0, .int 0, .int 0])) := (k25 _ (z_nn u19 a16)).trans a32
    have a34 : f26 q13 = some (.inr (4, [.int 0, .null, .long 0, .int 0, .int 0, .int 0, .int 0])) := (k28 _ (z_nn u19 a16)).trans a33
    have a35 : f29 q13 = some (.inr (4, [.int 0, .null, .long 0, .int 0, .int 0, .int 0, .int 0])) := (k31 _ (z_nn u19 a16)).trans a34
    refine z_callIv (ret := none) (As := [.int 3, .ref q18, .long (x / y)]) C hz hS hA hl (k_X4_init l D cy f29 q13 3 q18 (x / y) a35 ) zyX4_init mMX7_89 rfl rfl (Nat.le_of_ble_eq_true rfl) ⟨Nat.le_of_ble_eq_true rfl, Nat.le_of_ble_eq_true rfl⟩ ⟨Nat.le_of_ble_eq_true rfl, Nat.le_of_ble_eq_true rfl⟩ dX7_share_69 (fun  f36 H locs h37 hz hS => ?_)
    obtain ⟨a38, k39⟩ := h37
    have a40 : f7 fi = some (.inr (5, [.ref al, .ref ra, .int 0])) := k9 _ _ a6 
    have a41 : f15 fi = some (.inr (5, [.ref al, .ref ra, .int 0])) := (k17 _ (z_nn u14 a40)).trans a40
    have a42 : f20 fi = some (.inr (5, [.ref al, .ref ra, .int 0])) := (k22 _ (z_nn u19 a41)).trans a41
    have a43 : f23 fi = some (.inr (5, [.ref al, .ref ra, .int 0])) := (k25 _ (z_nn u19 a41)).trans a42
    have a44 : f26 fi = some (.inr (5, [.ref al, .ref ra, .int 0])) := (k28 _ (z_nn u19 a41)).trans a43
    have a45 : f29 fi = some (.inr (5, [.ref al, .ref ra, .int 0])) := (k31 _ (z_nn u19 a41)).trans a44
    have a46 : f36 fi = some (.inr (5, [.ref al, .ref ra, .int 0])) := k39 _ _ a45 (z_nn u14 a40)
    have a47 : f1 al = some (.inl (cy 3, 60, .inr (.inr (.inr (.inr ga))))) := k4 _ _ p3 (z_ne p3 p1 rfl)
    have a48 : f7 al = some (.inl (cy 3, 60, .inr (.inr (.inr (.inr ga))))) := k9 _ _ a47 
    have a49 : f15 al = some (.inl (cy 3, 60, .inr (.inr (.inr (.inr ga))))) := (k17 _ (z_nn u14 a48)).trans a48
    have a50 : f20 al = some (.inl (cy 3, 60, .inr (.inr (.inr (.inr ga))))) := (k22 _ (z_nn u19 a49)).trans a49
    have a51 : f23 al = some (.inl (cy 3, 60, .inr (.inr (.inr (.inr ga))))) := (k25 _ (z_nn u19 a49)).trans a50
    have a52 : f26 al = some (.inl (cy 3, 60, .inr (.inr (.inr (.inr ga))))) := (k28 _ (z_nn u19 a49)).trans a51
    have a53 : f29 al = some (.inl (cy 3, 60, .inr (.inr (.inr (.inr ga))))) := (k31 _ (z_nn u19 a49)).trans a52
    have a54 : f36 al = some (.inl (cy 3, 60, .inr (.inr (.inr (.inr ga))))) := k39 _ _ a53 (z_nn u14 a48)
    have a55 : f1 ra = some (.inl (cy 3, 60, .inr (.inr (.inr (.inr gr))))) := k4 _ _ p4 (z_ne p4 p1 rfl)
    have a56 : f7 ra = some (.inl (cy 3, 60, .inr (.inr (.inr (.inr gr))))) := k9 _ _ a55 
    have a57 : f15 ra = some (.inl (cy 3, 60, .inr (.inr (.inr (.inr gr))))) := (k17 _ (z_nn u14 a56)).trans a56
    have a58 : f20 ra = some (.inl (cy 3, 60, .inr (.inr (.inr (.inr gr))))) := (k22 _ (z_nn u19 a57)).trans a57
    have a59 : f23 ra = some (.inl (cy 3, 60, .inr (.inr (.inr (.inr gr))))) := (k25 _ (z_nn u19 a57)).trans a58
    have a60 : f26 ra = some (.inl (cy 3, 60, .inr (.inr (.inr (.inr gr))))) := (k28 _ (z_nn u19 a57)).trans a59
    have a61 : f29 ra = some (.inl (cy 3, 60, .inr (.inr (.inr (.inr gr))))) := (k31 _ (z_nn u19 a57)).trans a60
    have a62 : f36 ra = some (.inl (cy 3, 60, .inr (.inr (.inr (.inr gr))))) := k39 _ _ a61 (z_nn u14 a56)
    have a63 : f36 q18 = some (.inl (cy 1, 3, .inr (.inl (vp_updL (vp_updL (vp_updL (fun _ => 0) 0 x) 1 y) 2 (x / y))))) := k39 _ _ a30 (Ne.symm (z_nn u19 a16))
    refine z_callVi (As := [.ref q13]) C hz hS hA hl (k_X5_add l D cy f36 fi al ra ga gr q13 3 q18 (x / y) 0 (-1) 0 0 3 (vp_updL (vp_updL (vp_updL (fun _ => 0) 0 x) 1 y) 2 (x / y)) a46 a54 a62 a38 a63 (by decide) (Nat.le_of_ble_eq_true rfl) har) zyX5_add mMX7_92 a46 zl5 rfl rfl (Nat.le_of_ble_eq_true rfl) ⟨Nat.le_of_ble_eq_true rfl, Nat.le_of_ble_eq_true rfl⟩ ⟨Nat.le_of_ble_eq_true rfl, Nat.le_of_ble_eq_true rfl⟩ dX7_share_72 (fun r f64 H locs h65 hz hS => ?_)
    obtain ⟨rfl, k66⟩ := h65
    exact z_iret C hr rfl hz hS ⟨(by have hc := lg_cmp_eq y 0; simp [hc] at c11; simp [c11]), (by
          intro b e hb n0 n1 n2 n3 n4
          have hb0 : f1 b = some e := k4 b e hb n0
          have hb1 : f7 b = some e := k9 b e hb0 
          have nn2 : b ≠ q13 := z_nn u14 hb1
          have hb2 : f15 b = some e := (k17 b nn2).trans hb1
          have nn3 : b ≠ q18 := z_nn u19 hb2
          have hb3 : f20 b = some e := (k22 b nn3).trans hb2
          have hb4 : f23 b = some e := (k25 b nn3).trans hb3
          have hb5 : f26 b = some e := (k28 b nn3).trans hb4
          have hb6 : f29 b = some e := (k31 b nn3).trans hb5
          have hb7 : f36 b = some e := k39 b e hb6 nn2
          have hb8 : f64 b = some e := k66 b e hb7 n1 n2 n3 nn2
          exact hb8)⟩ (Nat.le_of_ble_eq_true rfl) (Nat.le_of_ble_eq_true rfl) dX7_share_75
  · refine lv_aload_n hx hb dX7_share_26 rfl (lv_at hl 0 rfl) ?_
    have a67 : f7 o = some (.inr (7, [.ref fa, .ref fi, .ref nu, .int 0, .ref fm, .int 0, .ref co, .int 0, .ref en, .ref ke, .long 1])) := k9 _ _ a5 
    refine z_get (v := .ref fa) C hz a67 zl7 mFX7_10 (by decide) rfl dX7_share_27 ?_
    refine lv_bipush (v := 6) hx hb dX7_share_30 (by decide) ?_
    refine lv_iconst (v := 1) hx hb dX7_share_32 (by decide) ?_
    have a68 : f7 fa = some (.inr (2, [.int 0, .int (-1), .int 0, .ref ev])) := k9 _ _ a3 
    have a69 : f1 ev = some (.inl (cy 0, 8, .inl g)) := k4 _ _ p5 (z_ne p5 p1 rfl)
    have a70 : f7 ev = some (.inl (cy 0, 8, .inl g)) := k9 _ _ a69 
    refine z_callVi (As := [.int 6, .int 1]) C hz hS hA hl (k_X2_inPart l D cy f7 fa 6 1 0 (-1) 0 ev g 6 a68 a70 (by decide) (Nat.le_of_ble_eq_true rfl)) zyX2_inPart mMX7_104 a68 zl2 rfl rfl (Nat.le_of_ble_eq_true rfl) ⟨Nat.le_of_ble_eq_true rfl, Nat.le_of_ble_eq_true rfl⟩ ⟨Nat.le_of_ble_eq_true rfl, Nat.le_of_ble_eq_true rfl⟩ dX7_share_33 (fun r f71 H locs h72 hz hS => ?_)
    obtain ⟨rfl, a73, a74, k75⟩ := h72
    exact z_iret C hr rfl hz hS ⟨(by have hc := lg_cmp_eq y 0; simp [hc] at c11; simp [c11]), (by
          intro b e hb n0 n1 n2 n3 n4
          have hb0 : f1 b = some e := k4 b e hb n0
          have hb1 : f7 b = some e := k9 b e hb0 
          have hb2 : f71 b = some e := k75 b e hb1 n0 n4
          exact hb2)⟩ (Nat.le_of_ble_eq_true rfl) (Nat.le_of_ble_eq_true rfl) dX7_share_36
abbrev rmX7_pair : Room := { frames := 2, cells := 0, slots := 0, locals := 43 }
set_option maxHeartbeats 4000000 in
set_option maxRecDepth 100000 in
theorem k_X7_pair (l : Launch) (D : va_G) (cy : Nat → ClassId) (f : zM) (o : Nat) (fa : Nat) (fi : Nat) (nu : Nat) (fm : Nat) (co : Nat) (en : Nat) (ke : Nat) (x : Int32) (y : Int32) (u1 : Int32) (u2 : Int32) (u3 : Int32) (ev : Nat) (al : Nat) (ra : Nat) (g : Nat → Int32) (p0 : f o = some (.inr (7, [.ref fa, .ref fi, .ref nu, .int 0, .ref fm, .int 0, .ref co, .int 0, .ref en, .ref ke, .long 1]))) (p1 : f fa = some (.inr (2, [.int u1, .int u2, .int u3, .ref ev]))) (p2 : f fi = some (.inr (5, [.ref al, .ref ra, .int 0]))) (p3 : f ev = some (.inl (cy 0, 8, .inl g)))  : zCi l D cy yX7_pair cX7_pair 3 (Option.some Jvm.ClassFile.FieldType.int) rmX7_pair [.ref o, .int x, .int y] f (fun (r : Int32) (f1 : zM) => r = (if x = (-1) then (if y = (-1) then (-4) else (-2)) else (-2)) ∧ (∀ (b : Nat) (e : va_E), f b = some e → b ≠ fa → b ≠ ev → f1 b = some e)) := by
  intro sz
  refine z_body (by decide +kernel) (Nat.le_of_ble_eq_true rfl) ?_
  intro p e s m below meth c ls C hr hin hsz hz hl
  subst hsz
  have hx := C.1
  have hb := C.2.1
  have hA : ∀ q, s.heap.size ≤ q → zA f s.heap.size q := fun q h => Or.inr h
  have hS : va_S (zA f s.heap.size) s.heap s.heap [] := va_S.rf
  have hl : lv_has ls 3 [(0, .ref o), (1, .int x), (2, .int y)] := hl
  by_cases h1 : x = (-1)
  · by_cases h2 : y = (-1)
    · refine lv_aload_n hx hb dX7_pair_0 rfl (lv_at hl 0 rfl) ?_
      refine z_get (v := .ref fa) C hz p0 zl7 mFX7_10 (by decide) rfl dX7_pair_1 ?_
      refine z_callVv (As := []) C hz hS hA hl (k_X2_none l D cy f fa u1 u2 u3 ev p1 ) zyX2_none mMX7_76 p1 zl2 rfl rfl (Nat.le_of_ble_eq_true rfl) ⟨Nat.le_of_ble_eq_true rfl, Nat.le_of_ble_eq_true rfl⟩ ⟨Nat.le_of_ble_eq_true rfl, Nat.le_of_ble_eq_true rfl⟩ dX7_pair_4 (fun  f1 H locs h2 hz hS => ?_)
      obtain ⟨a3, k4⟩ := h2
      refine lv_aload_n hx hb dX7_pair_7 rfl (lv_at hl 0 rfl) ?_
      have a5 : f1 o = some (.inr (7, [.ref fa, .ref fi, .ref nu, .int 0, .ref fm, .int 0, .ref co, .int 0, .ref en, .ref ke, .long 1])) := k4 _ _ p0 (z_ne p0 p1 rfl)
      refine z_get (v := .ref fi) C hz a5 zl7 mFX7_19 (by decide) rfl dX7_pair_8 ?_
      refine lv_iload_n hx hb dX7_pair_11 rfl (lv_at hl 1 rfl) ?_
      have a6 : f1 fi = some (.inr (5, [.ref al, .ref ra, .int 0])) := k4 _ _ p2 (z_ne p2 p1 rfl)
      refine z_callVi (As := [.int x]) C hz hS hA hl (k_X5_hasOrNone_A l D cy f1 fi x al ra a6 h1) zyX5_hasOrNone mMX7_112 a6 zl5 rfl rfl (Nat.le_of_ble_eq_true rfl) ⟨Nat.le_of_ble_eq_true rfl, Nat.le_of_ble_eq_true rfl⟩ ⟨Nat.le_of_ble_eq_true rfl, Nat.le_of_ble_eq_true rfl⟩ dX7_pair_12 (fun r f7 H locs h8 hz hS => ?_)
      obtain ⟨rfl, k9⟩ := h8
      refine lv_if_eq (tgt := 29) hx hb dX7_pair_15 (by decide) (fun c10 => ?_) (fun c10 => ?_)
      · exact absurd c10 (by decide)
      refine lv_aload_n hx hb dX7_pair_18 rfl (lv_at hl 0 rfl) ?_
      have a11 : f7 o = some (.inr (7, [.ref fa, .ref fi, .ref nu, .int 0, .ref fm, .int 0, .ref co, .int 0, .ref en, .ref ke, .long 1])) := k9 _ _ a5 
      refine z_get (v := .ref fi) C hz a11 zl7 mFX7_19 (by decide) rfl dX7_pair_19 ?_
      refine lv_iload_n hx hb dX7_pair_22 rfl (lv_at hl 2 rfl) ?_
      have a12 : f7 fi = some (.inr (5, [.ref al, .ref ra, .int 0])) := k9 _ _ a6 
      refine z_callVi (As := [.int y]) C hz hS hA hl (k_X5_hasOrNone_A l D cy f7 fi y al ra a12 h2) zyX5_hasOrNone mMX7_112 a12 zl5 rfl rfl (Nat.le_of_ble_eq_true rfl) ⟨Nat.le_of_ble_eq_true rfl, Nat.le_of_ble_eq_true rfl⟩ ⟨Nat.le_of_ble_eq_true rfl, Nat.le_of_ble_eq_true rfl⟩ dX7_pair_23 (fun r f13 H locs h14 hz hS => ?_)
      obtain ⟨rfl, k15⟩ := h14
      refine lv_if_ne (tgt := 32) hx hb dX7_pair_26 (by decide) (fun c16 => ?_) (fun c16 => ?_)
      rotate_left
      · exact absurd c16 (by decide)
      refine lv_aload_n hx hb dX7_pair_32 rfl (lv_at hl 0 rfl) ?_
      have a17 : f13 o = some (.inr (7, [.ref fa, .ref fi, .ref nu, .int 0, .ref fm, .int 0, .ref co, .int 0, .ref en, .ref ke, .long 1])) := k15 _ _ a11 
      refine z_get (v := .ref fi) C hz a17 zl7 mFX7_19 (by decide) rfl dX7_pair_33 ?_
      have a18 : f13 fi = some (.inr (5, [.ref al, .ref ra, .int 0])) := k15 _ _ a12 
      refine z_callVi (As := []) C hz hS hA hl (k_X5_isFull l D cy f13 fi al ra a18 ) zyX5_isFull mMX7_79 a18 zl5 rfl rfl (Nat.le_of_ble_eq_true rfl) ⟨Nat.le_of_ble_eq_true rfl, Nat.le_of_ble_eq_true rfl⟩ ⟨Nat.le_of_ble_eq_true rfl, Nat.le_of_ble_eq_true rfl⟩ dX7_pair_36 (fun r f19 H locs h20 hz hS => ?_)
      obtain ⟨rfl, k21⟩ := h20
      refine lv_if_eq (tgt := 45) hx hb dX7_pair_39 (by decide) (fun c22 => ?_) (fun c22 => ?_)
      rotate_left
      · exact absurd c22 (by decide)
      refine lv_iload_n hx hb dX7_pair_45 rfl (lv_at hl 1 rfl) ?_
      refine lv_iconst (v := (-1)) hx hb dX7_pair_46 (by decide) ?_
      refine lv_icmp_ne (tgt := 60) hx hb dX7_pair_47 (by decide) (fun c23 => ?_) (fun c23 => ?_)
      · exact absurd h1 c23
      refine lv_aload_n hx hb dX7_pair_50 rfl (lv_at hl 0 rfl) ?_
      have a24 : f19 o = some (.inr (7, [.ref fa, .ref fi, .ref nu, .int 0, .ref fm, .int 0, .ref co, .int 0, .ref en, .ref ke, .long 1])) := k21 _ _ a17 
      refine z_get (v := .ref fa) C hz a24 zl7 mFX7_10 (by decide) rfl dX7_pair_51 ?_
      refine lv_iconst (v := 1) hx hb dX7_pair_54 (by decide) ?_
      refine lv_iconst (v := 0) hx hb dX7_pair_55 (by decide) ?_
      have a25 : f7 fa = some (.inr (2, [.int 0, .int (-1), .int 0, .ref ev])) := k9 _ _ a3 
      have a26 : f13 fa = some (.inr (2, [.int 0, .int (-1), .int 0, .ref ev])) := k15 _ _ a25 
      have a27 : f19 fa = some (.inr (2, [.int 0, .int (-1), .int 0, .ref ev])) := k21 _ _ a26 
      have a28 : f1 ev = some (.inl (cy 0, 8, .inl g)) := k4 _ _ p3 (z_ne p3 p1 rfl)
      have a29 : f7 ev = some (.inl (cy 0, 8, .inl g)) := k9 _ _ a28 
      have a30 : f13 ev = some (.inl (cy 0, 8, .inl g)) := k15 _ _ a29 
      have a31 : f19 ev = some (.inl (cy 0, 8, .inl g)) := k21 _ _ a30 
      refine z_callVi (As := [.int 1, .int 0]) C hz hS hA hl (k_X2_inPart l D cy f19 fa 1 0 0 (-1) 0 ev g 1 a27 a31 (by decide) (Nat.le_of_ble_eq_true rfl)) zyX2_inPart mMX7_104 a27 zl2 rfl rfl (Nat.le_of_ble_eq_true rfl) ⟨Nat.le_of_ble_eq_true rfl, Nat.le_of_ble_eq_true rfl⟩ ⟨Nat.le_of_ble_eq_true rfl, Nat.le_of_ble_eq_true rfl⟩ dX7_pair_56 (fun r f32 H locs h33 hz hS => ?_)
      obtain ⟨rfl, a34, a35, k36⟩ := h33
      exact z_iret C hr rfl hz hS ⟨(by simp [h1, h2]), (by
            intro b e hb n0 n1
            have hb0 : f1 b = some e := k4 b e hb n0
            have hb1 : f7 b = some e := k9 b e hb0 
            have hb2 : f13 b = some e := k15 b e hb1 
            have hb3 : f19 b = some e := k21 b e hb2 
            have hb4 : f32 b = some e := k36 b e hb3 n0 n1
            exact hb4)⟩ (Nat.le_of_ble_eq_true rfl) (Nat.le_of_ble_eq_true rfl) dX7_pair_59
    · refine lv_aload_n hx hb dX7_pair_0 rfl (lv_at hl 0 rfl) ?_
      refine z_get (v := .ref fa) C hz p0 zl7 mFX7_10 (by decide) rfl dX7_pair_1 ?_
      refine z_callVv (As := []) C hz hS hA hl (k_X2_none l D cy f fa u1 u2 u3 ev p1 ) zyX2_none mMX7_76 p1 zl2 rfl rfl (Nat.le_of_ble_eq_true rfl) ⟨Nat.le_of_ble_eq_true rfl, Nat.le_of_ble_eq_true rfl⟩ ⟨Nat.le_of_ble_eq_true rfl, Nat.le_of_ble_eq_true rfl⟩ dX7_pair_4 (fun  f37 H locs h38 hz hS => ?_)
      obtain ⟨a39, k40⟩ := h38
      refine lv_aload_n hx hb dX7_pair_7 rfl (lv_at hl 0 rfl) ?_
      have a41 : f37 o = some (.inr (7, [.ref fa, .ref fi, .ref nu, .int 0, .ref fm, .int 0, .ref co, .int 0, .ref en, .ref ke, .long 1])) := k40 _ _ p0 (z_ne p0 p1 rfl)
      refine z_get (v := .ref fi) C hz a41 zl7 mFX7_19 (by decide) rfl dX7_pair_8 ?_
      refine lv_iload_n hx hb dX7_pair_11 rfl (lv_at hl 1 rfl) ?_
      have a42 : f37 fi = some (.inr (5, [.ref al, .ref ra, .int 0])) := k40 _ _ p2 (z_ne p2 p1 rfl)
      refine z_callVi (As := [.int x]) C hz hS hA hl (k_X5_hasOrNone_A l D cy f37 fi x al ra a42 h1) zyX5_hasOrNone mMX7_112 a42 zl5 rfl rfl (Nat.le_of_ble_eq_true rfl) ⟨Nat.le_of_ble_eq_true rfl, Nat.le_of_ble_eq_true rfl⟩ ⟨Nat.le_of_ble_eq_true rfl, Nat.le_of_ble_eq_true rfl⟩ dX7_pair_12 (fun r f43 H locs h44 hz hS => ?_)
      obtain ⟨rfl, k45⟩ := h44
      refine lv_if_eq (tgt := 29) hx hb dX7_pair_15 (by decide) (fun c46 => ?_) (fun c46 => ?_)
      · exact absurd c46 (by decide)
      refine lv_aload_n hx hb dX7_pair_18 rfl (lv_at hl 0 rfl) ?_
      have a47 : f43 o = some (.inr (7, [.ref fa, .ref fi, .ref nu, .int 0, .ref fm, .int 0, .ref co, .int 0, .ref en, .ref ke, .long 1])) := k45 _ _ a41 
      refine z_get (v := .ref fi) C hz a47 zl7 mFX7_19 (by decide) rfl dX7_pair_19 ?_
      refine lv_iload_n hx hb dX7_pair_22 rfl (lv_at hl 2 rfl) ?_
      have a48 : f43 fi = some (.inr (5, [.ref al, .ref ra, .int 0])) := k45 _ _ a42 
      refine z_callVi (As := [.int y]) C hz hS hA hl (k_X5_hasOrNone_B l D cy f43 fi y al ra a48 h2) zyX5_hasOrNone mMX7_112 a48 zl5 rfl rfl (Nat.le_of_ble_eq_true rfl) ⟨Nat.le_of_ble_eq_true rfl, Nat.le_of_ble_eq_true rfl⟩ ⟨Nat.le_of_ble_eq_true rfl, Nat.le_of_ble_eq_true rfl⟩ dX7_pair_23 (fun r f49 H locs h50 hz hS => ?_)
      obtain ⟨rfl, k51⟩ := h50
      refine lv_if_ne (tgt := 32) hx hb dX7_pair_26 (by decide) (fun c52 => ?_) (fun c52 => ?_)
      · exact absurd c52 (by decide)
      refine lv_bipush (v := (-2)) hx hb dX7_pair_29 (by decide) ?_
      exact z_iret C hr rfl hz hS ⟨(by simp [h1, h2]), (by
            intro b e hb n0 n1
            have hb0 : f37 b = some e := k40 b e hb n0
            have hb1 : f43 b = some e := k45 b e hb0 
            have hb2 : f49 b = some e := k51 b e hb1 
            exact hb2)⟩ (Nat.le_of_ble_eq_true rfl) (Nat.le_of_ble_eq_true rfl) dX7_pair_31
  · by_cases h2 : y = (-1)
    · refine lv_aload_n hx hb dX7_pair_0 rfl (lv_at hl 0 rfl) ?_
      refine z_get (v := .ref fa) C hz p0 zl7 mFX7_10 (by decide) rfl dX7_pair_1 ?_
      refine z_callVv (As := []) C hz hS hA hl (k_X2_none l D cy f fa u1 u2 u3 ev p1 ) zyX2_none mMX7_76 p1 zl2 rfl rfl (Nat.le_of_ble_eq_true rfl) ⟨Nat.le_of_ble_eq_true rfl, Nat.le_of_ble_eq_true rfl⟩ ⟨Nat.le_of_ble_eq_true rfl, Nat.le_of_ble_eq_true rfl⟩ dX7_pair_4 (fun  f53 H locs h54 hz hS => ?_)
      obtain ⟨a55, k56⟩ := h54
      refine lv_aload_n hx hb dX7_pair_7 rfl (lv_at hl 0 rfl) ?_
      have a57 : f53 o = some (.inr (7, [.ref fa, .ref fi, .ref nu, .int 0, .ref fm, .int 0, .ref co, .int 0, .ref en, .ref ke, .long 1])) := k56 _ _ p0 (z_ne p0 p1 rfl)
      refine z_get (v := .ref fi) C hz a57 zl7 mFX7_19 (by decide) rfl dX7_pair_8 ?_
      refine lv_iload_n hx hb dX7_pair_11 rfl (lv_at hl 1 rfl) ?_
      have a58 : f53 fi = some (.inr (5, [.ref al, .ref ra, .int 0])) := k56 _ _ p2 (z_ne p2 p1 rfl)
      refine z_callVi (As := [.int x]) C hz hS hA hl (k_X5_hasOrNone_B l D cy f53 fi x al ra a58 h1) zyX5_hasOrNone mMX7_112 a58 zl5 rfl rfl (Nat.le_of_ble_eq_true rfl) ⟨Nat.le_of_ble_eq_true rfl, Nat.le_of_ble_eq_true rfl⟩ ⟨Nat.le_of_ble_eq_true rfl, Nat.le_of_ble_eq_true rfl⟩ dX7_pair_12 (fun r f59 H locs h60 hz hS => ?_)
      obtain ⟨rfl, k61⟩ := h60
      refine lv_if_eq (tgt := 29) hx hb dX7_pair_15 (by decide) (fun c62 => ?_) (fun c62 => ?_)
      rotate_left
      · exact absurd c62 (by decide)
      refine lv_bipush (v := (-2)) hx hb dX7_pair_29 (by decide) ?_
      exact z_iret C hr rfl hz hS ⟨(by simp [h1, h2]), (by
            intro b e hb n0 n1
            have hb0 : f53 b = some e := k56 b e hb n0
            have hb1 : f59 b = some e := k61 b e hb0 
            exact hb1)⟩ (Nat.le_of_ble_eq_true rfl) (Nat.le_of_ble_eq_true rfl) dX7_pair_31
    · refine lv_aload_n hx hb dX7_pair_0 rfl (lv_at hl 0 rfl) ?_
      refine z_get (v := .ref fa) C hz p0 zl7 mFX7_10 (by decide) rfl dX7_pair_1 ?_
      refine z_callVv (As := []) C hz hS hA hl (k_X2_none l D cy f fa u1 u2 u3 ev p1 ) zyX2_none mMX7_76 p1 zl2 rfl rfl (Nat.le_of_ble_eq_true rfl) ⟨Nat.le_of_ble_eq_true rfl, Nat.le_of_ble_eq_true rfl⟩ ⟨Nat.le_of_ble_eq_true rfl, Nat.le_of_ble_eq_true rfl⟩ dX7_pair_4 (fun  f63 H locs h64 hz hS => ?_)
      obtain ⟨a65, k66⟩ := h64
      refine lv_aload_n hx hb dX7_pair_7 rfl (lv_at hl 0 rfl) ?_
      have a67 : f63 o = some (.inr (7, [.ref fa, .ref fi, .ref nu, .int 0, .ref fm, .int 0, .ref co, .int 0, .ref en, .ref ke, .long 1])) := k66 _ _ p0 (z_ne p0 p1 rfl)
      refine z_get (v := .ref fi) C hz a67 zl7 mFX7_19 (by decide) rfl dX7_pair_8 ?_
      refine lv_iload_n hx hb dX7_pair_11 rfl (lv_at hl 1 rfl) ?_
      have a68 : f63 fi = some (.inr (5, [.ref al, .ref ra, .int 0])) := k66 _ _ p2 (z_ne p2 p1 rfl)
      refine z_callVi (As := [.int x]) C hz hS hA hl (k_X5_hasOrNone_B l D cy f63 fi x al ra a68 h1) zyX5_hasOrNone mMX7_112 a68 zl5 rfl rfl (Nat.le_of_ble_eq_true rfl) ⟨Nat.le_of_ble_eq_true rfl, Nat.le_of_ble_eq_true rfl⟩ ⟨Nat.le_of_ble_eq_true rfl, Nat.le_of_ble_eq_true rfl⟩ dX7_pair_12 (fun r f69 H locs h70 hz hS => ?_)
      obtain ⟨rfl, k71⟩ := h70
      refine lv_if_eq (tgt := 29) hx hb dX7_pair_15 (by decide) (fun c72 => ?_) (fun c72 => ?_)
      rotate_left
      · exact absurd c72 (by decide)
      refine lv_bipush (v := (-2)) hx hb dX7_pair_29 (by decide) ?_
      exact z_iret C hr rfl hz hS ⟨(by simp [h1, h2]), (by
            intro b e hb n0 n1
            have hb0 : f63 b = some e := k66 b e hb n0
            have hb1 : f69 b = some e := k71 b e hb0 
            exact hb1)⟩ (Nat.le_of_ble_eq_true rfl) (Nat.le_of_ble_eq_true rfl) dX7_pair_31
abbrev rmX7_set : Room := { frames := 1, cells := 0, slots := 0, locals := 22 }
set_option maxHeartbeats 4000000 in
set_option maxRecDepth 100000 in
theorem k_X7_set (l : Launch) (D : va_G) (cy : Nat → ClassId) (f : zM) (o : Nat) (fa : Nat) (fi : Nat) (nu : Nat) (fm : Nat) (co : Nat) (en : Nat) (ke : Nat) (x : Int32) (y : Int32) (z : Int32) (u1 : Int32) (u2 : Int32) (u3 : Int32) (ev : Nat) (al : Nat) (ra : Nat) (p0 : f o = some (.inr (7, [.ref fa, .ref fi, .ref nu, .int 0, .ref fm, .int 0, .ref co, .int 0, .ref en, .ref ke, .long 1]))) (p1 : f fa = some (.inr (2, [.int u1, .int u2, .int u3, .ref ev]))) (p2 : f fi = some (.inr (5, [.ref al, .ref ra, .int 0])))  : zCi l D cy yX7_set cX7_set 6 (Option.some Jvm.ClassFile.FieldType.int) rmX7_set [.ref o, .int x, .int y, .int z] f (fun (r : Int32) (f1 : zM) => r = (-2) ∧ (∀ (b : Nat) (e : va_E), f b = some e → b ≠ fa → f1 b = some e)) := by
  intro sz
  refine z_body (by decide +kernel) (Nat.le_of_ble_eq_true rfl) ?_
  intro p e s m below meth c ls C hr hin hsz hz hl
  subst hsz
  have hx := C.1
  have hb := C.2.1
  have hA : ∀ q, s.heap.size ≤ q → zA f s.heap.size q := fun q h => Or.inr h
  have hS : va_S (zA f s.heap.size) s.heap s.heap [] := va_S.rf
  have hl : lv_has ls 6 [(0, .ref o), (1, .int x), (2, .int y), (3, .int z)] := hl
  refine lv_aload_n hx hb dX7_set_0 rfl (lv_at hl 0 rfl) ?_
  refine z_get (v := .ref fa) C hz p0 zl7 mFX7_10 (by decide) rfl dX7_set_1 ?_
  refine z_callVv (As := []) C hz hS hA hl (k_X2_none l D cy f fa u1 u2 u3 ev p1 ) zyX2_none mMX7_76 p1 zl2 rfl rfl (Nat.le_of_ble_eq_true rfl) ⟨Nat.le_of_ble_eq_true rfl, Nat.le_of_ble_eq_true rfl⟩ ⟨Nat.le_of_ble_eq_true rfl, Nat.le_of_ble_eq_true rfl⟩ dX7_set_4 (fun  f1 H locs h2 hz hS => ?_)
  obtain ⟨a3, k4⟩ := h2
  refine lv_aload_n hx hb dX7_set_7 rfl (lv_at hl 0 rfl) ?_
  have a5 : f1 o = some (.inr (7, [.ref fa, .ref fi, .ref nu, .int 0, .ref fm, .int 0, .ref co, .int 0, .ref en, .ref ke, .long 1])) := k4 _ _ p0 (z_ne p0 p1 rfl)
  refine z_get (v := .ref fi) C hz a5 zl7 mFX7_19 (by decide) rfl dX7_set_8 ?_
  refine lv_iload_n hx hb dX7_set_11 rfl (lv_at hl 1 rfl) ?_
  refine lv_i2l (v := x.toInt64) hx hb dX7_set_12 rfl ?_
  have a6 : f1 fi = some (.inr (5, [.ref al, .ref ra, .int 0])) := k4 _ _ p2 (z_ne p2 p1 rfl)
  refine z_callVq (As := [.long x.toInt64]) C hz hS hA hl (k_X5_find l D cy f1 fi x.toInt64 al ra a6 ) zyX5_find mMX7_130 a6 zl5 rfl rfl (Nat.le_of_ble_eq_true rfl) ⟨Nat.le_of_ble_eq_true rfl, Nat.le_of_ble_eq_true rfl⟩ ⟨Nat.le_of_ble_eq_true rfl, Nat.le_of_ble_eq_true rfl⟩ dX7_set_13 (fun r f7 H locs h8 hz hS => ?_)
  obtain ⟨rfl, k9⟩ := h8
  refine W.eq (g2 := F0 m 16 ls [.null]) rfl ?_
  refine lv_astoreN (lv' := [(4, .null), (0, .ref o), (1, .int x), (2, .int y), (3, .int z)]) hx hb dX7_set_16 hl (by decide) rfl (fun ls hl => ?_)
  refine lv_aload_n hx hb dX7_set_18 rfl (lv_at hl 1 rfl) ?_
  have a10 : f7 o = some (.inr (7, [.ref fa, .ref fi, .ref nu, .int 0, .ref fm, .int 0, .ref co, .int 0, .ref en, .ref ke, .long 1])) := k9 _ _ a5 
  refine z_get (v := .ref fi) C hz a10 zl7 mFX7_19 (by decide) rfl dX7_set_19 ?_
  refine lv_iload_n hx hb dX7_set_22 rfl (lv_at hl 4 rfl) ?_
  refine lv_i2l (v := z.toInt64) hx hb dX7_set_23 rfl ?_
  have a11 : f7 fi = some (.inr (5, [.ref al, .ref ra, .int 0])) := k9 _ _ a6 
  refine z_callVq (As := [.long z.toInt64]) C hz hS hA hl (k_X5_find l D cy f7 fi z.toInt64 al ra a11 ) zyX5_find mMX7_130 a11 zl5 rfl rfl (Nat.le_of_ble_eq_true rfl) ⟨Nat.le_of_ble_eq_true rfl, Nat.le_of_ble_eq_true rfl⟩ ⟨Nat.le_of_ble_eq_true rfl, Nat.le_of_ble_eq_true rfl⟩ dX7_set_24 (fun r f12 H locs h13 hz hS => ?_)
  obtain ⟨rfl, k14⟩ := h13
  refine W.eq (g2 := F0 m 27 ls [.null]) rfl ?_
  refine lv_astoreN (lv' := [(5, .null), (4, .null), (0, .ref o), (1, .int x), (2, .int y), (3, .int z)]) hx hb dX7_set_27 hl (by decide) rfl (fun ls hl => ?_)
  refine lv_aloadN hx hb dX7_set_29 (lv_at hl 1 rfl) ?_
  refine lv_ifnullN (tgt := 45) hx hb dX7_set_31 (by decide) ?_
  refine lv_bipush (v := (-2)) hx hb dX7_set_45 (by decide) ?_
  exact z_iret C hr rfl hz hS ⟨rfl, (by
        intro b e hb n0
        have hb0 : f1 b = some e := k4 b e hb n0
        have hb1 : f7 b = some e := k9 b e hb0 
        have hb2 : f12 b = some e := k14 b e hb1 
        exact hb2)⟩ (Nat.le_of_ble_eq_true rfl) (Nat.le_of_ble_eq_true rfl) dX7_set_47
abbrev rmX7_at : Room := { frames := 1, cells := 0, slots := 0, locals := 22 }
set_option maxHeartbeats 4000000 in
set_option maxRecDepth 100000 in
theorem k_X7_at (l : Launch) (D : va_G) (cy : Nat → ClassId) (f : zM) (o : Nat) (fa : Nat) (fi : Nat) (nu : Nat) (fm : Nat) (co : Nat) (en : Nat) (ke : Nat) (x : Int32) (y : Int32) (u1 : Int32) (u2 : Int32) (u3 : Int32) (ev : Nat) (al : Nat) (ra : Nat) (p0 : f o = some (.inr (7, [.ref fa, .ref fi, .ref nu, .int 0, .ref fm, .int 0, .ref co, .int 0, .ref en, .ref ke, .long 1]))) (p1 : f fa = some (.inr (2, [.int u1, .int u2, .int u3, .ref ev]))) (p2 : f fi = some (.inr (5, [.ref al, .ref ra, .int 0])))  : zCi l D cy yX7_at cX7_at 4 (Option.some Jvm.ClassFile.FieldType.int) rmX7_at [.ref o, .int x, .int y] f (fun (r : Int32) (f1 : zM) => r = (-2) ∧ (∀ (b : Nat) (e : va_E), f b = some e → b ≠ fa → f1 b = some e)) := by
  intro sz
  refine z_body (by decide +kernel) (Nat.le_of_ble_eq_true rfl) ?_
  intro p e s m below meth c ls C hr hin hsz hz hl
  subst hsz
  have hx := C.1
  have hb := C.2.1
  have hA : ∀ q, s.heap.size ≤ q → zA f s.heap.size q := fun q h => Or.inr h
  have hS : va_S (zA f s.heap.size) s.heap s.heap [] := va_S.rf
  have hl : lv_has ls 4 [(0, .ref o), (1, .int x), (2, .int y)] := hl
  refine lv_aload_n hx hb dX7_at_0 rfl (lv_at hl 0 rfl) ?_
  refine z_get (v := .ref fa) C hz p0 zl7 mFX7_10 (by decide) rfl dX7_at_1 ?_
  refine z_callVv (As := []) C hz hS hA hl (k_X2_none l D cy f fa u1 u2 u3 ev p1 ) zyX2_none mMX7_76 p1 zl2 rfl rfl (Nat.le_of_ble_eq_true rfl) ⟨Nat.le_of_ble_eq_true rfl, Nat.le_of_ble_eq_true rfl⟩ ⟨Nat.le_of_ble_eq_true rfl, Nat.le_of_ble_eq_true rfl⟩ dX7_at_4 (fun  f1 H locs h2 hz hS => ?_)
  obtain ⟨a3, k4⟩ := h2
  refine lv_aload_n hx hb dX7_at_7 rfl (lv_at hl 0 rfl) ?_
  have a5 : f1 o = some (.inr (7, [.ref fa, .ref fi, .ref nu, .int 0, .ref fm, .int 0, .ref co, .int 0, .ref en, .ref ke, .long 1])) := k4 _ _ p0 (z_ne p0 p1 rfl)
  refine z_get (v := .ref fi) C hz a5 zl7 mFX7_19 (by decide) rfl dX7_at_8 ?_
  refine lv_iload_n hx hb dX7_at_11 rfl (lv_at hl 1 rfl) ?_
  refine lv_i2l (v := x.toInt64) hx hb dX7_at_12 rfl ?_
  have a6 : f1 fi = some (.inr (5, [.ref al, .ref ra, .int 0])) := k4 _ _ p2 (z_ne p2 p1 rfl)
  refine z_callVq (As := [.long x.toInt64]) C hz hS hA hl (k_X5_find l D cy f1 fi x.toInt64 al ra a6 ) zyX5_find mMX7_130 a6 zl5 rfl rfl (Nat.le_of_ble_eq_true rfl) ⟨Nat.le_of_ble_eq_true rfl, Nat.le_of_ble_eq_true rfl⟩ ⟨Nat.le_of_ble_eq_true rfl, Nat.le_of_ble_eq_true rfl⟩ dX7_at_13 (fun r f7 H locs h8 hz hS => ?_)
  obtain ⟨rfl, k9⟩ := h8
  refine W.eq (g2 := F0 m 16 ls [.null]) rfl ?_
  refine lv_astore_nN (lv' := [(3, .null), (0, .ref o), (1, .int x), (2, .int y)]) hx hb dX7_at_16 rfl hl (by decide) rfl (fun ls hl => ?_)
  refine lv_aload_nN hx hb dX7_at_17 rfl (lv_at hl 0 rfl) ?_
  refine lv_ifnonnullN hx hb dX7_at_18 ?_
  refine lv_bipush (v := (-2)) hx hb dX7_at_21 (by decide) ?_
  exact z_iret C hr rfl hz hS ⟨rfl, (by
        intro b e hb n0
        have hb0 : f1 b = some e := k4 b e hb n0
        have hb1 : f7 b = some e := k9 b e hb0 
        exact hb1)⟩ (Nat.le_of_ble_eq_true rfl) (Nat.le_of_ble_eq_true rfl) dX7_at_23
abbrev rmX7_kind : Room := { frames := 1, cells := 0, slots := 0, locals := 22 }
set_option maxHeartbeats 4000000 in
set_option maxRecDepth 100000 in
theorem k_X7_kind (l : Launch) (D : va_G) (cy : Nat → ClassId) (f : zM) (o : Nat) (fa : Nat) (fi : Nat) (nu : Nat) (fm : Nat) (co : Nat) (en : Nat) (ke : Nat) (x : Int32) (al : Nat) (ra : Nat) (p0 : f o = some (.inr (7, [.ref fa, .ref fi, .ref nu, .int 0, .ref fm, .int 0, .ref co, .int 0, .ref en, .ref ke, .long 1]))) (p1 : f fi = some (.inr (5, [.ref al, .ref ra, .int 0])))  : zCi l D cy yX7_kind cX7_kind 3 (Option.some Jvm.ClassFile.FieldType.int) rmX7_kind [.ref o, .int x] f (fun (r : Int32) (f1 : zM) => r = (-2) ∧ (∀ (b : Nat) (e : va_E), f b = some e → f1 b = some e)) := by
  intro sz
  refine z_body (by decide +kernel) (Nat.le_of_ble_eq_true rfl) ?_
  intro p e s m below meth c ls C hr hin hsz hz hl
  subst hsz
  have hx := C.1
  have hb := C.2.1
  have hA : ∀ q, s.heap.size ≤ q → zA f s.heap.size q := fun q h => Or.inr h
  have hS : va_S (zA f s.heap.size) s.heap s.heap [] := va_S.rf
  have hl : lv_has ls 3 [(0, .ref o), (1, .int x)] := hl
  refine lv_aload_n hx hb dX7_kind_0 rfl (lv_at hl 0 rfl) ?_
  refine z_get (v := .ref fi) C hz p0 zl7 mFX7_19 (by decide) rfl dX7_kind_1 ?_
  refine lv_iload_n hx hb dX7_kind_4 rfl (lv_at hl 1 rfl) ?_
  refine lv_i2l (v := x.toInt64) hx hb dX7_kind_5 rfl ?_
  refine z_callVq (As := [.long x.toInt64]) C hz hS hA hl (k_X5_find l D cy f fi x.toInt64 al ra p1 ) zyX5_find mMX7_130 p1 zl5 rfl rfl (Nat.le_of_ble_eq_true rfl) ⟨Nat.le_of_ble_eq_true rfl, Nat.le_of_ble_eq_true rfl⟩ ⟨Nat.le_of_ble_eq_true rfl, Nat.le_of_ble_eq_true rfl⟩ dX7_kind_6 (fun r f1 H locs h2 hz hS => ?_)
  obtain ⟨rfl, k3⟩ := h2
  refine W.eq (g2 := F0 m 9 ls [.null]) rfl ?_
  refine lv_astore_nN (lv' := [(2, .null), (0, .ref o), (1, .int x)]) hx hb dX7_kind_9 rfl hl (by decide) rfl (fun ls hl => ?_)
  refine lv_aload_nN hx hb dX7_kind_10 rfl (lv_at hl 0 rfl) ?_
  refine lv_ifnonnullN hx hb dX7_kind_11 ?_
  refine lv_bipush (v := (-2)) hx hb dX7_kind_14 (by decide) ?_
  refine lv_goto (tgt := 23) hx hb dX7_kind_16 (by decide) ?_
  exact z_iret C hr rfl hz hS ⟨rfl, (by
        intro b e hb 
        have hb0 : f1 b = some e := k3 b e hb 
        exact hb0)⟩ (Nat.le_of_ble_eq_true rfl) (Nat.le_of_ble_eq_true rfl) dX7_kind_23
abbrev rmX7_parts : Room := { frames := 1, cells := 0, slots := 0, locals := 22 }
set_option maxHeartbeats 4000000 in
set_option maxRecDepth 100000 in
theorem k_X7_parts (l : Launch) (D : va_G) (cy : Nat → ClassId) (f : zM) (o : Nat) (fa : Nat) (fi : Nat) (nu : Nat) (fm : Nat) (co : Nat) (en : Nat) (ke : Nat) (x : Int32) (al : Nat) (ra : Nat) (p0 : f o = some (.inr (7, [.ref fa, .ref fi, .ref nu, .int 0, .ref fm, .int 0, .ref co, .int 0, .ref en, .ref ke, .long 1]))) (p1 : f fi = some (.inr (5, [.ref al, .ref ra, .int 0])))  : zCi l D cy yX7_parts cX7_parts 3 (Option.some Jvm.ClassFile.FieldType.int) rmX7_parts [.ref o, .int x] f (fun (r : Int32) (f1 : zM) => r = (-2) ∧ (∀ (b : Nat) (e : va_E), f b = some e → f1 b = some e)) := by
  intro sz
  refine z_body (by decide +kernel) (Nat.le_of_ble_eq_true rfl) ?_
  intro p e s m below meth c ls C hr hin hsz hz hl
  subst hsz
  have hx := C.1
  have hb := C.2.1
  have hA : ∀ q, s.heap.size ≤ q → zA f s.heap.size q := fun q h => Or.inr h
  have hS : va_S (zA f s.heap.size) s.heap s.heap [] := va_S.rf
  have hl : lv_has ls 3 [(0, .ref o), (1, .int x)] := hl
  refine lv_aload_n hx hb dX7_parts_0 rfl (lv_at hl 0 rfl) ?_
  refine z_get (v := .ref fi) C hz p0 zl7 mFX7_19 (by decide) rfl dX7_parts_1 ?_
  refine lv_iload_n hx hb dX7_parts_4 rfl (lv_at hl 1 rfl) ?_
  refine lv_i2l (v := x.toInt64) hx hb dX7_parts_5 rfl ?_
  refine z_callVq (As := [.long x.toInt64]) C hz hS hA hl (k_X5_find l D cy f fi x.toInt64 al ra p1 ) zyX5_find mMX7_130 p1 zl5 rfl rfl (Nat.le_of_ble_eq_true rfl) ⟨Nat.le_of_ble_eq_true rfl, Nat.le_of_ble_eq_true rfl⟩ ⟨Nat.le_of_ble_eq_true rfl, Nat.le_of_ble_eq_true rfl⟩ dX7_parts_6 (fun r f1 H locs h2 hz hS => ?_)
  obtain ⟨rfl, k3⟩ := h2
  refine W.eq (g2 := F0 m 9 ls [.null]) rfl ?_
  refine lv_astore_nN (lv' := [(2, .null), (0, .ref o), (1, .int x)]) hx hb dX7_parts_9 rfl hl (by decide) rfl (fun ls hl => ?_)
  refine lv_aload_nN hx hb dX7_parts_10 rfl (lv_at hl 0 rfl) ?_
  refine lv_ifnonnullN hx hb dX7_parts_11 ?_
  refine lv_bipush (v := (-2)) hx hb dX7_parts_14 (by decide) ?_
  refine lv_goto (tgt := 24) hx hb dX7_parts_16 (by decide) ?_
  exact z_iret C hr rfl hz hS ⟨rfl, (by
        intro b e hb 
        have hb0 : f1 b = some e := k3 b e hb 
        exact hb0)⟩ (Nat.le_of_ble_eq_true rfl) (Nat.le_of_ble_eq_true rfl) dX7_parts_24
abbrev rmX7_part : Room := { frames := 1, cells := 0, slots := 0, locals := 22 }
set_option maxHeartbeats 4000000 in
set_option maxRecDepth 100000 in
theorem k_X7_part (l : Launch) (D : va_G) (cy : Nat → ClassId) (f : zM) (o : Nat) (fa : Nat) (fi : Nat) (nu : Nat) (fm : Nat) (co : Nat) (en : Nat) (ke : Nat) (x : Int32) (y : Int32) (al : Nat) (ra : Nat) (p0 : f o = some (.inr (7, [.ref fa, .ref fi, .ref nu, .int 0, .ref fm, .int 0, .ref co, .int 0, .ref en, .ref ke, .long 1]))) (p1 : f fi = some (.inr (5, [.ref al, .ref ra, .int 0])))  : zCl l D cy yX7_part cX7_part 4 (Option.some Jvm.ClassFile.FieldType.long) rmX7_part [.ref o, .int x, .int y] f (fun (r : Int64) (f1 : zM) => r = (-3000000000000000000) ∧ (∀ (b : Nat) (e : va_E), f b = some e → f1 b = some e)) := by
  intro sz
  refine z_body (by decide +kernel) (Nat.le_of_ble_eq_true rfl) ?_
  intro p e s m below meth c ls C hr hin hsz hz hl
  subst hsz
  have hx := C.1
  have hb := C.2.1
  have hA : ∀ q, s.heap.size ≤ q → zA f s.heap.size q := fun q h => Or.inr h
  have hS : va_S (zA f s.heap.size) s.heap s.heap [] := va_S.rf
  have hl : lv_has ls 4 [(0, .ref o), (1, .int x), (2, .int y)] := hl
  refine lv_aload_n hx hb dX7_part_0 rfl (lv_at hl 0 rfl) ?_
  refine z_get (v := .ref fi) C hz p0 zl7 mFX7_19 (by decide) rfl dX7_part_1 ?_
  refine lv_iload_n hx hb dX7_part_4 rfl (lv_at hl 1 rfl) ?_
  refine lv_i2l (v := x.toInt64) hx hb dX7_part_5 rfl ?_
  refine z_callVq (As := [.long x.toInt64]) C hz hS hA hl (k_X5_find l D cy f fi x.toInt64 al ra p1 ) zyX5_find mMX7_130 p1 zl5 rfl rfl (Nat.le_of_ble_eq_true rfl) ⟨Nat.le_of_ble_eq_true rfl, Nat.le_of_ble_eq_true rfl⟩ ⟨Nat.le_of_ble_eq_true rfl, Nat.le_of_ble_eq_true rfl⟩ dX7_part_6 (fun r f1 H locs h2 hz hS => ?_)
  obtain ⟨rfl, k3⟩ := h2
  refine W.eq (g2 := F0 m 9 ls [.null]) rfl ?_
  refine lv_astore_nN (lv' := [(3, .null), (0, .ref o), (1, .int x), (2, .int y)]) hx hb dX7_part_9 rfl hl (by decide) rfl (fun ls hl => ?_)
  refine lv_aload_nN hx hb dX7_part_10 rfl (lv_at hl 0 rfl) ?_
  refine lv_ifnullN (tgt := 27) hx hb dX7_part_11 (by decide) ?_
  refine lv_ldc2 (v := (-3000000000000000000)) hx hb C.2.2.2.1 (C.2.2.2.2.1 _ mKX7_154) dX7_part_27 ?_
  exact z_lret C hr hz hS ⟨rfl, (by
        intro b e hb 
        have hb0 : f1 b = some e := k3 b e hb 
        exact hb0)⟩ (Nat.le_of_ble_eq_true rfl) (Nat.le_of_ble_eq_true rfl) dX7_part_30
abbrev rmX7_equal : Room := { frames := 1, cells := 0, slots := 0, locals := 22 }
set_option maxHeartbeats 4000000 in
set_option maxRecDepth 100000 in
theorem k_X7_equal (l : Launch) (D : va_G) (cy : Nat → ClassId) (f : zM) (o : Nat) (fa : Nat) (fi : Nat) (nu : Nat) (fm : Nat) (co : Nat) (en : Nat) (ke : Nat) (x : Int32) (y : Int32) (al : Nat) (ra : Nat) (p0 : f o = some (.inr (7, [.ref fa, .ref fi, .ref nu, .int 0, .ref fm, .int 0, .ref co, .int 0, .ref en, .ref ke, .long 1]))) (p1 : f fi = some (.inr (5, [.ref al, .ref ra, .int 0])))  : zCi l D cy yX7_equal cX7_equal 5 (Option.some Jvm.ClassFile.FieldType.int) rmX7_equal [.ref o, .int x, .int y] f (fun (r : Int32) (f1 : zM) => r = (-2) ∧ (∀ (b : Nat) (e : va_E), f b = some e → f1 b = some e)) := by
  intro sz
  refine z_body (by decide +kernel) (Nat.le_of_ble_eq_true rfl) ?_
  intro p e s m below meth c ls C hr hin hsz hz hl
  subst hsz
  have hx := C.1
  have hb := C.2.1
  have hA : ∀ q, s.heap.size ≤ q → zA f s.heap.size q := fun q h => Or.inr h
  have hS : va_S (zA f s.heap.size) s.heap s.heap [] := va_S.rf
  have hl : lv_has ls 5 [(0, .ref o), (1, .int x), (2, .int y)] := hl
  refine lv_aload_n hx hb dX7_equal_0 rfl (lv_at hl 0 rfl) ?_
  refine z_get (v := .ref fi) C hz p0 zl7 mFX7_19 (by decide) rfl dX7_equal_1 ?_
  refine lv_iload_n hx hb dX7_equal_4 rfl (lv_at hl 1 rfl) ?_
  refine lv_i2l (v := x.toInt64) hx hb dX7_equal_5 rfl ?_
  refine z_callVq (As := [.long x.toInt64]) C hz hS hA hl (k_X5_find l D cy f fi x.toInt64 al ra p1 ) zyX5_find mMX7_130 p1 zl5 rfl rfl (Nat.le_of_ble_eq_true rfl) ⟨Nat.le_of_ble_eq_true rfl, Nat.le_of_ble_eq_true rfl⟩ ⟨Nat.le_of_ble_eq_true rfl, Nat.le_of_ble_eq_true rfl⟩ dX7_equal_6 (fun r f1 H locs h2 hz hS => ?_)
  obtain ⟨rfl, k3⟩ := h2
  refine W.eq (g2 := F0 m 9 ls [.null]) rfl ?_
  refine lv_astore_nN (lv' := [(3, .null), (0, .ref o), (1, .int x), (2, .int y)]) hx hb dX7_equal_9 rfl hl (by decide) rfl (fun ls hl => ?_)
  refine lv_aload_n hx hb dX7_equal_10 rfl (lv_at hl 1 rfl) ?_
  have a4 : f1 o = some (.inr (7, [.ref fa, .ref fi, .ref nu, .int 0, .ref fm, .int 0, .ref co, .int 0, .ref en, .ref ke, .long 1])) := k3 _ _ p0 
  refine z_get (v := .ref fi) C hz a4 zl7 mFX7_19 (by decide) rfl dX7_equal_11 ?_
  refine lv_iload_n hx hb dX7_equal_14 rfl (lv_at hl 3 rfl) ?_
  refine lv_i2l (v := y.toInt64) hx hb dX7_equal_15 rfl ?_
  have a5 : f1 fi = some (.inr (5, [.ref al, .ref ra, .int 0])) := k3 _ _ p1 
  refine z_callVq (As := [.long y.toInt64]) C hz hS hA hl (k_X5_find l D cy f1 fi y.toInt64 al ra a5 ) zyX5_find mMX7_130 a5 zl5 rfl rfl (Nat.le_of_ble_eq_true rfl) ⟨Nat.le_of_ble_eq_true rfl, Nat.le_of_ble_eq_true rfl⟩ ⟨Nat.le_of_ble_eq_true rfl, Nat.le_of_ble_eq_true rfl⟩ dX7_equal_16 (fun r f6 H locs h7 hz hS => ?_)
  obtain ⟨rfl, k8⟩ := h7
  refine W.eq (g2 := F0 m 19 ls [.null]) rfl ?_
  refine lv_astoreN (lv' := [(4, .null), (3, .null), (0, .ref o), (1, .int x), (2, .int y)]) hx hb dX7_equal_19 hl (by decide) rfl (fun ls hl => ?_)
  refine lv_aload_nN hx hb dX7_equal_21 rfl (lv_at hl 1 rfl) ?_
  refine lv_ifnullN (tgt := 30) hx hb dX7_equal_22 (by decide) ?_
  refine lv_bipush (v := (-2)) hx hb dX7_equal_30 (by decide) ?_
  exact z_iret C hr rfl hz hS ⟨rfl, (by
        intro b e hb 
        have hb0 : f1 b = some e := k3 b e hb 
        have hb1 : f6 b = some e := k8 b e hb0 
        exact hb1)⟩ (Nat.le_of_ble_eq_true rfl) (Nat.le_of_ble_eq_true rfl) dX7_equal_32
abbrev rmX7_hash : Room := { frames := 1, cells := 0, slots := 0, locals := 22 }
set_option maxHeartbeats 4000000 in
set_option maxRecDepth 100000 in
theorem k_X7_hash (l : Launch) (D : va_G) (cy : Nat → ClassId) (f : zM) (o : Nat) (fa : Nat) (fi : Nat) (nu : Nat) (fm : Nat) (co : Nat) (en : Nat) (ke : Nat) (x : Int32) (al : Nat) (ra : Nat) (p0 : f o = some (.inr (7, [.ref fa, .ref fi, .ref nu, .int 0, .ref fm, .int 0, .ref co, .int 0, .ref en, .ref ke, .long 1]))) (p1 : f fi = some (.inr (5, [.ref al, .ref ra, .int 0])))  : zCi l D cy yX7_hash cX7_hash 3 (Option.some Jvm.ClassFile.FieldType.int) rmX7_hash [.ref o, .int x] f (fun (r : Int32) (f1 : zM) => r = 0 ∧ (∀ (b : Nat) (e : va_E), f b = some e → f1 b = some e)) := by
  intro sz
  refine z_body (by decide +kernel) (Nat.le_of_ble_eq_true rfl) ?_
  intro p e s m below meth c ls C hr hin hsz hz hl
  subst hsz
  have hx := C.1
  have hb := C.2.1
  have hA : ∀ q, s.heap.size ≤ q → zA f s.heap.size q := fun q h => Or.inr h
  have hS : va_S (zA f s.heap.size) s.heap s.heap [] := va_S.rf
  have hl : lv_has ls 3 [(0, .ref o), (1, .int x)] := hl
  refine lv_aload_n hx hb dX7_hash_0 rfl (lv_at hl 0 rfl) ?_
  refine z_get (v := .ref fi) C hz p0 zl7 mFX7_19 (by decide) rfl dX7_hash_1 ?_
  refine lv_iload_n hx hb dX7_hash_4 rfl (lv_at hl 1 rfl) ?_
  refine lv_i2l (v := x.toInt64) hx hb dX7_hash_5 rfl ?_
  refine z_callVq (As := [.long x.toInt64]) C hz hS hA hl (k_X5_find l D cy f fi x.toInt64 al ra p1 ) zyX5_find mMX7_130 p1 zl5 rfl rfl (Nat.le_of_ble_eq_true rfl) ⟨Nat.le_of_ble_eq_true rfl, Nat.le_of_ble_eq_true rfl⟩ ⟨Nat.le_of_ble_eq_true rfl, Nat.le_of_ble_eq_true rfl⟩ dX7_hash_6 (fun r f1 H locs h2 hz hS => ?_)
  obtain ⟨rfl, k3⟩ := h2
  refine W.eq (g2 := F0 m 9 ls [.null]) rfl ?_
  refine lv_astore_nN (lv' := [(2, .null), (0, .ref o), (1, .int x)]) hx hb dX7_hash_9 rfl hl (by decide) rfl (fun ls hl => ?_)
  refine lv_aload_nN hx hb dX7_hash_10 rfl (lv_at hl 0 rfl) ?_
  refine lv_ifnonnullN hx hb dX7_hash_11 ?_
  refine lv_iconst (v := 0) hx hb dX7_hash_14 (by decide) ?_
  refine lv_goto (tgt := 22) hx hb dX7_hash_15 (by decide) ?_
  exact z_iret C hr rfl hz hS ⟨rfl, (by
        intro b e hb 
        have hb0 : f1 b = some e := k3 b e hb 
        exact hb0)⟩ (Nat.le_of_ble_eq_true rfl) (Nat.le_of_ble_eq_true rfl) dX7_hash_22
abbrev rmX7_order : Room := { frames := 1, cells := 0, slots := 0, locals := 22 }
set_option maxHeartbeats 4000000 in
set_option maxRecDepth 100000 in
theorem k_X7_order (l : Launch) (D : va_G) (cy : Nat → ClassId) (f : zM) (o : Nat) (fa : Nat) (fi : Nat) (nu : Nat) (fm : Nat) (co : Nat) (en : Nat) (ke : Nat) (x : Int32) (y : Int32) (al : Nat) (ra : Nat) (p0 : f o = some (.inr (7, [.ref fa, .ref fi, .ref nu, .int 0, .ref fm, .int 0, .ref co, .int 0, .ref en, .ref ke, .long 1]))) (p1 : f fi = some (.inr (5, [.ref al, .ref ra, .int 0])))  : zCi l D cy yX7_order cX7_order 5 (Option.some Jvm.ClassFile.FieldType.int) rmX7_order [.ref o, .int x, .int y] f (fun (r : Int32) (f1 : zM) => r = (-2) ∧ (∀ (b : Nat) (e : va_E), f b = some e → f1 b = some e)) := by
  intro sz
  refine z_body (by decide +kernel) (Nat.le_of_ble_eq_true rfl) ?_
  intro p e s m below meth c ls C hr hin hsz hz hl
  subst hsz
  have hx := C.1
  have hb := C.2.1
  have hA : ∀ q, s.heap.size ≤ q → zA f s.heap.size q := fun q h => Or.inr h
  have hS : va_S (zA f s.heap.size) s.heap s.heap [] := va_S.rf
  have hl : lv_has ls 5 [(0, .ref o), (1, .int x), (2, .int y)] := hl
  refine lv_aload_n hx hb dX7_order_0 rfl (lv_at hl 0 rfl) ?_
  refine z_get (v := .ref fi) C hz p0 zl7 mFX7_19 (by decide) rfl dX7_order_1 ?_
  refine lv_iload_n hx hb dX7_order_4 rfl (lv_at hl 1 rfl) ?_
  refine lv_i2l (v := x.toInt64) hx hb dX7_order_5 rfl ?_
  refine z_callVq (As := [.long x.toInt64]) C hz hS hA hl (k_X5_find l D cy f fi x.toInt64 al ra p1 ) zyX5_find mMX7_130 p1 zl5 rfl rfl (Nat.le_of_ble_eq_true rfl) ⟨Nat.le_of_ble_eq_true rfl, Nat.le_of_ble_eq_true rfl⟩ ⟨Nat.le_of_ble_eq_true rfl, Nat.le_of_ble_eq_true rfl⟩ dX7_order_6 (fun r f1 H locs h2 hz hS => ?_)
  obtain ⟨rfl, k3⟩ := h2
  refine W.eq (g2 := F0 m 9 ls [.null]) rfl ?_
  refine lv_astore_nN (lv' := [(3, .null), (0, .ref o), (1, .int x), (2, .int y)]) hx hb dX7_order_9 rfl hl (by decide) rfl (fun ls hl => ?_)
  refine lv_aload_n hx hb dX7_order_10 rfl (lv_at hl 1 rfl) ?_
  have a4 : f1 o = some (.inr (7, [.ref fa, .ref fi, .ref nu, .int 0, .ref fm, .int 0, .ref co, .int 0, .ref en, .ref ke, .long 1])) := k3 _ _ p0 
  refine z_get (v := .ref fi) C hz a4 zl7 mFX7_19 (by decide) rfl dX7_order_11 ?_
  refine lv_iload_n hx hb dX7_order_14 rfl (lv_at hl 3 rfl) ?_
  refine lv_i2l (v := y.toInt64) hx hb dX7_order_15 rfl ?_
  have a5 : f1 fi = some (.inr (5, [.ref al, .ref ra, .int 0])) := k3 _ _ p1 
  refine z_callVq (As := [.long y.toInt64]) C hz hS hA hl (k_X5_find l D cy f1 fi y.toInt64 al ra a5 ) zyX5_find mMX7_130 a5 zl5 rfl rfl (Nat.le_of_ble_eq_true rfl) ⟨Nat.le_of_ble_eq_true rfl, Nat.le_of_ble_eq_true rfl⟩ ⟨Nat.le_of_ble_eq_true rfl, Nat.le_of_ble_eq_true rfl⟩ dX7_order_16 (fun r f6 H locs h7 hz hS => ?_)
  obtain ⟨rfl, k8⟩ := h7
  refine W.eq (g2 := F0 m 19 ls [.null]) rfl ?_
  refine lv_astoreN (lv' := [(4, .null), (3, .null), (0, .ref o), (1, .int x), (2, .int y)]) hx hb dX7_order_19 hl (by decide) rfl (fun ls hl => ?_)
  refine lv_aload_nN hx hb dX7_order_21 rfl (lv_at hl 1 rfl) ?_
  refine lv_ifnullN (tgt := 30) hx hb dX7_order_22 (by decide) ?_
  refine lv_bipush (v := (-2)) hx hb dX7_order_30 (by decide) ?_
  exact z_iret C hr rfl hz hS ⟨rfl, (by
        intro b e hb 
        have hb0 : f1 b = some e := k3 b e hb 
        have hb1 : f6 b = some e := k8 b e hb0 
        exact hb1)⟩ (Nat.le_of_ble_eq_true rfl) (Nat.le_of_ble_eq_true rfl) dX7_order_32
abbrev rmX7_first : Room := { frames := 1, cells := 0, slots := 0, locals := 22 }
set_option maxHeartbeats 4000000 in
set_option maxRecDepth 100000 in
theorem k_X7_first (l : Launch) (D : va_G) (cy : Nat → ClassId) (f : zM) (o : Nat) (fa : Nat) (fi : Nat) (nu : Nat) (fm : Nat) (co : Nat) (en : Nat) (ke : Nat) (x : Int32) (al : Nat) (ra : Nat) (p0 : f o = some (.inr (7, [.ref fa, .ref fi, .ref nu, .int 0, .ref fm, .int 0, .ref co, .int 0, .ref en, .ref ke, .long 1]))) (p1 : f fi = some (.inr (5, [.ref al, .ref ra, .int 0])))  : zCi l D cy yX7_first cX7_first 3 (Option.some Jvm.ClassFile.FieldType.int) rmX7_first [.ref o, .int x] f (fun (r : Int32) (f1 : zM) => r = (-2) ∧ (∀ (b : Nat) (e : va_E), f b = some e → f1 b = some e)) := by
  intro sz
  refine z_body (by decide +kernel) (Nat.le_of_ble_eq_true rfl) ?_
  intro p e s m below meth c ls C hr hin hsz hz hl
  subst hsz
  have hx := C.1
  have hb := C.2.1
  have hA : ∀ q, s.heap.size ≤ q → zA f s.heap.size q := fun q h => Or.inr h
  have hS : va_S (zA f s.heap.size) s.heap s.heap [] := va_S.rf
  have hl : lv_has ls 3 [(0, .ref o), (1, .int x)] := hl
  refine lv_aload_n hx hb dX7_first_0 rfl (lv_at hl 0 rfl) ?_
  refine z_get (v := .ref fi) C hz p0 zl7 mFX7_19 (by decide) rfl dX7_first_1 ?_
  refine lv_iload_n hx hb dX7_first_4 rfl (lv_at hl 1 rfl) ?_
  refine lv_i2l (v := x.toInt64) hx hb dX7_first_5 rfl ?_
  refine z_callVq (As := [.long x.toInt64]) C hz hS hA hl (k_X5_find l D cy f fi x.toInt64 al ra p1 ) zyX5_find mMX7_130 p1 zl5 rfl rfl (Nat.le_of_ble_eq_true rfl) ⟨Nat.le_of_ble_eq_true rfl, Nat.le_of_ble_eq_true rfl⟩ ⟨Nat.le_of_ble_eq_true rfl, Nat.le_of_ble_eq_true rfl⟩ dX7_first_6 (fun r f1 H locs h2 hz hS => ?_)
  obtain ⟨rfl, k3⟩ := h2
  refine W.eq (g2 := F0 m 9 ls [.null]) rfl ?_
  refine lv_astore_nN (lv' := [(2, .null), (0, .ref o), (1, .int x)]) hx hb dX7_first_9 rfl hl (by decide) rfl (fun ls hl => ?_)
  refine lv_aload_nN hx hb dX7_first_10 rfl (lv_at hl 0 rfl) ?_
  refine lv_ifnonnullN hx hb dX7_first_11 ?_
  refine lv_bipush (v := (-2)) hx hb dX7_first_14 (by decide) ?_
  refine lv_goto (tgt := 27) hx hb dX7_first_16 (by decide) ?_
  exact z_iret C hr rfl hz hS ⟨rfl, (by
        intro b e hb 
        have hb0 : f1 b = some e := k3 b e hb 
        exact hb0)⟩ (Nat.le_of_ble_eq_true rfl) (Nat.le_of_ble_eq_true rfl) dX7_first_27
abbrev rmX7_weight : Room := { frames := 1, cells := 0, slots := 0, locals := 22 }
set_option maxHeartbeats 4000000 in
set_option maxRecDepth 100000 in
theorem k_X7_weight (l : Launch) (D : va_G) (cy : Nat → ClassId) (f : zM) (o : Nat) (fa : Nat) (fi : Nat) (nu : Nat) (fm : Nat) (co : Nat) (en : Nat) (ke : Nat) (x : Int32) (y : Int32) (al : Nat) (ra : Nat) (p0 : f o = some (.inr (7, [.ref fa, .ref fi, .ref nu, .int 0, .ref fm, .int 0, .ref co, .int 0, .ref en, .ref ke, .long 1]))) (p1 : f fi = some (.inr (5, [.ref al, .ref ra, .int 0])))  : zCl l D cy yX7_weight cX7_weight 4 (Option.some Jvm.ClassFile.FieldType.long) rmX7_weight [.ref o, .int x, .int y] f (fun (r : Int64) (f1 : zM) => r = (-3000000000000000000) ∧ (∀ (b : Nat) (e : va_E), f b = some e → f1 b = some e)) := by
  intro sz
  refine z_body (by decide +kernel) (Nat.le_of_ble_eq_true rfl) ?_
  intro p e s m below meth c ls C hr hin hsz hz hl
  subst hsz
  have hx := C.1
  have hb := C.2.1
  have hA : ∀ q, s.heap.size ≤ q → zA f s.heap.size q := fun q h => Or.inr h
  have hS : va_S (zA f s.heap.size) s.heap s.heap [] := va_S.rf
  have hl : lv_has ls 4 [(0, .ref o), (1, .int x), (2, .int y)] := hl
  refine lv_aload_n hx hb dX7_weight_0 rfl (lv_at hl 0 rfl) ?_
  refine z_get (v := .ref fi) C hz p0 zl7 mFX7_19 (by decide) rfl dX7_weight_1 ?_
  refine lv_iload_n hx hb dX7_weight_4 rfl (lv_at hl 1 rfl) ?_
  refine lv_i2l (v := x.toInt64) hx hb dX7_weight_5 rfl ?_
  refine z_callVq (As := [.long x.toInt64]) C hz hS hA hl (k_X5_find l D cy f fi x.toInt64 al ra p1 ) zyX5_find mMX7_130 p1 zl5 rfl rfl (Nat.le_of_ble_eq_true rfl) ⟨Nat.le_of_ble_eq_true rfl, Nat.le_of_ble_eq_true rfl⟩ ⟨Nat.le_of_ble_eq_true rfl, Nat.le_of_ble_eq_true rfl⟩ dX7_weight_6 (fun r f1 H locs h2 hz hS => ?_)
  obtain ⟨rfl, k3⟩ := h2
  refine W.eq (g2 := F0 m 9 ls [.null]) rfl ?_
  refine lv_astore_nN (lv' := [(3, .null), (0, .ref o), (1, .int x), (2, .int y)]) hx hb dX7_weight_9 rfl hl (by decide) rfl (fun ls hl => ?_)
  refine lv_aload_nN hx hb dX7_weight_10 rfl (lv_at hl 0 rfl) ?_
  refine lv_ifnonnullN hx hb dX7_weight_11 ?_
  refine lv_ldc2 (v := (-3000000000000000000)) hx hb C.2.2.2.1 (C.2.2.2.2.1 _ mKX7_154) dX7_weight_14 ?_
  exact z_lret C hr hz hS ⟨rfl, (by
        intro b e hb 
        have hb0 : f1 b = some e := k3 b e hb 
        exact hb0)⟩ (Nat.le_of_ble_eq_true rfl) (Nat.le_of_ble_eq_true rfl) dX7_weight_17
abbrev rmX7_ranked : Room := { frames := 1, cells := 0, slots := 0, locals := 21 }
set_option maxHeartbeats 4000000 in
set_option maxRecDepth 100000 in
theorem k_X7_ranked (l : Launch) (D : va_G) (cy : Nat → ClassId) (f : zM) (o : Nat) (fa : Nat) (fi : Nat) (nu : Nat) (fm : Nat) (co : Nat) (en : Nat) (ke : Nat) (x : Int32) (al : Nat) (ra : Nat) (p0 : f o = some (.inr (7, [.ref fa, .ref fi, .ref nu, .int 0, .ref fm, .int 0, .ref co, .int 0, .ref en, .ref ke, .long 1]))) (p1 : f fi = some (.inr (5, [.ref al, .ref ra, .int 0])))  : zCi l D cy yX7_ranked cX7_ranked 2 (Option.some Jvm.ClassFile.FieldType.int) rmX7_ranked [.ref o, .int x] f (fun (r : Int32) (f1 : zM) => r = (if 0 ≤ x then (-1) else (-2)) ∧ (∀ (b : Nat) (e : va_E), f b = some e → f1 b = some e)) := by
  intro sz
  refine z_body (by decide +kernel) (Nat.le_of_ble_eq_true rfl) ?_
  intro p e s m below meth c ls C hr hin hsz hz hl
  subst hsz
  have hx := C.1
  have hb := C.2.1
  have hA : ∀ q, s.heap.size ≤ q → zA f s.heap.size q := fun q h => Or.inr h
  have hS : va_S (zA f s.heap.size) s.heap s.heap [] := va_S.rf
  have hl : lv_has ls 2 [(0, .ref o), (1, .int x)] := hl
  refine lv_iload_n hx hb dX7_ranked_0 rfl (lv_at hl 1 rfl) ?_
  refine lv_if_ge (tgt := 9) hx hb dX7_ranked_1 (by decide) (fun c1 => ?_) (fun c1 => ?_)
  · refine lv_aload_n hx hb dX7_ranked_9 rfl (lv_at hl 0 rfl) ?_
    refine z_get (v := .ref fi) C hz p0 zl7 mFX7_19 (by decide) rfl dX7_ranked_10 ?_
    refine lv_iload_n hx hb dX7_ranked_13 rfl (lv_at hl 1 rfl) ?_
    refine z_callVi (As := [.int x]) C hz hS hA hl (k_X5_numberRanked l D cy f fi x al ra p1 c1) zyX5_numberRanked mMX7_181 p1 zl5 rfl rfl (Nat.le_of_ble_eq_true rfl) ⟨Nat.le_of_ble_eq_true rfl, Nat.le_of_ble_eq_true rfl⟩ ⟨Nat.le_of_ble_eq_true rfl, Nat.le_of_ble_eq_true rfl⟩ dX7_ranked_14 (fun r f2 H locs h3 hz hS => ?_)
    obtain ⟨rfl, k4⟩ := h3
    exact z_iret C hr rfl hz hS ⟨(by simp [c1]), (by
          intro b e hb 
          have hb0 : f2 b = some e := k4 b e hb 
          exact hb0)⟩ (Nat.le_of_ble_eq_true rfl) (Nat.le_of_ble_eq_true rfl) dX7_ranked_17
  · refine lv_bipush (v := (-2)) hx hb dX7_ranked_4 (by decide) ?_
    refine lv_goto (tgt := 17) hx hb dX7_ranked_6 (by decide) ?_
    exact z_iret C hr rfl hz hS ⟨(by simp [c1]), (fun b e hb => hb)⟩ (Nat.le_of_ble_eq_true rfl) (Nat.le_of_ble_eq_true rfl) dX7_ranked_17
end
section
theorem z_ixn {x M : Int32} {n : Nat} (hM : M.toInt = n) (h1 : 0 ≤ x) (h2 : x ≤ M) : ∃ j : Nat, j ≤ n ∧ x = nI j := nI_of2 hM (Int32.not_lt.mpr h1) h2
theorem z_ix4 {x : Int32} (h : 0 ≤ x ∧ x < 4) : ∃ j : Nat, j < 4 ∧ x = nI j := by
  obtain ⟨h1, h2⟩ := h
  rw [Int32.le_iff_toInt_le] at h1
  rw [Int32.lt_iff_toInt_lt] at h2
  have e0 : (0 : Int32).toInt = 0 := by decide
  have e4 : (4 : Int32).toInt = 4 := by decide
  rw [e0] at h1
  rw [e4] at h2
  exact vp_in_of (vp_in_iff.mpr ⟨h1, by omega⟩) (by omega)
theorem z_seed (x : Int32) : lg_cmp x.toInt64 2147483647 < 0 ↔ ¬ x = 2147483647 := by
  rw [lg_cmp_lt, Int64.lt_iff_toInt_lt, Int32.toInt_toInt64]
  have e : (2147483647 : Int64).toInt = 2147483647 := by decide
  have e2 : (2147483647 : Int32).toInt = 2147483647 := by decide
  have hb := Int32.toInt_lt x
  rw [e]
  constructor
  · rintro h rfl
    rw [e2] at h
    omega
  · intro h
    have : x.toInt ≠ 2147483647 := fun q => h (Int32.toInt_inj.mp (by rw [q, e2]))
    omega
/-- the kinds that were told, one after the other: the bits of those seen, or nothing more where one is none or was told twice -/
def zks (g : Nat → Int32) : Nat → Option Int32
  | 0 => some 0
  | i + 1 => match zks g i with
    | none => none
    | some s => if g i = (-1) then some s else if g i < 0 then none else if 6 < g i then none else if (s >>> (g i &&& 31)) &&& 1 = 0 then some (s ||| (1 <<< (g i &&& 31))) else none
theorem zks_none {g : Nat → Int32} {i : Nat} (h : zks g i = none) : ∀ d, zks g (i + d) = none := by
  intro d
  induction d with
  | zero => exact h
  | succ d ih => show zks g ((i + d) + 1) = none; simp [zks, ih]
theorem zks_none4 {g : Nat → Int32} {i : Nat} (hi : i < 4) (h : zks g (i + 1) = none) : ¬ (zks g 4).isSome = true := by
  have := zks_none h (3 - i)
  rw [show i + 1 + (3 - i) = 4 by omega] at this
  simp [this]
abbrev rmX7_numberAt : Room := { frames := 0, cells := 0, slots := 0, locals := 0 }
set_option maxHeartbeats 4000000 in
set_option maxRecDepth 100000 in
theorem k_X7_numberAt (l : Launch) (D : va_G) (cy : Nat → ClassId) (f : zM) (o : Nat) (fa : Nat) (fi : Nat) (nu : Nat) (fm : Nat) (co : Nat) (en : Nat) (ke : Nat) (x : Int32) (p0 : f o = some (.inr (7, [.ref fa, .ref fi, .ref nu, .int 0, .ref fm, .int 0, .ref co, .int 0, .ref en, .ref ke, .long 1])))  : zCi l D cy yX7_numberAt cX7_numberAt 2 (Option.some Jvm.ClassFile.FieldType.int) rmX7_numberAt [.ref o, .int x] f (fun (r : Int32) (f1 : zM) => r = 0 ∧ (∀ (b : Nat) (e : va_E), f b = some e → f1 b = some e)) := by
  intro sz
  refine z_body (by decide +kernel) (Nat.le_of_ble_eq_true rfl) ?_
  intro p e s m below meth c ls C hr hin hsz hz hl
  subst hsz
  have hx := C.1
  have hb := C.2.1
  have hA : ∀ q, s.heap.size ≤ q → zA f s.heap.size q := fun q h => Or.inr h
  have hS : va_S (zA f s.heap.size) s.heap s.heap [] := va_S.rf
  have hl : lv_has ls 2 [(0, .ref o), (1, .int x)] := hl
  refine lv_iload_n hx hb dX7_numberAt_0 rfl (lv_at hl 1 rfl) ?_
  refine lv_if_lt (tgt := 21) hx hb dX7_numberAt_1 (by decide) (fun c1 => ?_) (fun c1 => ?_)
  · refine lv_iconst (v := 0) hx hb dX7_numberAt_21 (by decide) ?_
    exact z_iret C hr rfl hz hS ⟨rfl, (fun b e hb => hb)⟩ (Nat.le_of_ble_eq_true rfl) (Nat.le_of_ble_eq_true rfl) dX7_numberAt_22
  · refine lv_iload_n hx hb dX7_numberAt_4 rfl (lv_at hl 1 rfl) ?_
    refine lv_aload_n hx hb dX7_numberAt_5 rfl (lv_at hl 0 rfl) ?_
    refine z_get (v := .int 0) C hz p0 zl7 mFX7_27 (by decide) rfl dX7_numberAt_6 ?_
    refine lv_icmp_ge (tgt := 21) hx hb dX7_numberAt_9 (by decide) (fun c2 => ?_) (fun c2 => ?_)
    rotate_left
    · exact absurd (Int32.not_lt.mp c1) c2
    refine lv_iconst (v := 0) hx hb dX7_numberAt_21 (by decide) ?_
    exact z_iret C hr rfl hz hS ⟨rfl, (fun b e hb => hb)⟩ (Nat.le_of_ble_eq_true rfl) (Nat.le_of_ble_eq_true rfl) dX7_numberAt_22
abbrev rmX7_rowParts : Room := { frames := 1, cells := 1, slots := 15, locals := 21 }
set_option maxHeartbeats 4000000 in
set_option maxRecDepth 100000 in
theorem k_X7_rowParts (l : Launch) (D : va_G) (cy : Nat → ClassId) (f : zM) (o : Nat) (fa : Nat) (fi : Nat) (nu : Nat) (fm : Nat) (co : Nat) (en : Nat) (ke : Nat) (x : Int32) (y : Int32) (z : Int32) (t : Nat) (p0 : f o = some (.inr (7, [.ref fa, .ref fi, .ref nu, .int 0, .ref fm, .int 0, .ref co, .int 0, .ref en, .ref ke, .long 1]))) (hxt : x = nI t) (ht : t ≤ 12) : zCq l D cy yX7_rowParts cX7_rowParts 6 (Option.some (Jvm.ClassFile.FieldType.array Jvm.ClassFile.FieldType.long)) rmX7_rowParts [.ref o, .int x, .int y, .int z] f (fun (r : Option Nat) (f1 : zM) => ∃ (pa : Nat) (gp : Nat → Int64), r = (some pa) ∧ f1 pa = some (.inl (cy 1, (3 + t), .inr (.inl gp))) ∧ (∀ (b : Nat) (e : va_E), f b = some e → f1 b = some e)) := by
  intro sz
  refine z_body (by decide +kernel) (Nat.le_of_ble_eq_true rfl) ?_
  intro p e s m below meth c ls C hr hin hsz hz hl
  subst hsz
  have hx := C.1
  have hb := C.2.1
  have hA : ∀ q, s.heap.size ≤ q → zA f s.heap.size q := fun q h => Or.inr h
  have hS : va_S (zA f s.heap.size) s.heap s.heap [] := va_S.rf
  have hl : lv_has ls 6 [(0, .ref o), (1, .int x), (2, .int y), (3, .int z)] := hl
  refine lv_iconst (v := 3) hx hb dX7_rowParts_0 (by decide) ?_
  refine lv_iload_n hx hb dX7_rowParts_1 rfl (lv_at hl 1 rfl) ?_
  refine lv_iadd hx hb dX7_rowParts_2 ?_
  refine z_newa (atype := .long) (t0 := 1) (N' := 3 + t) (x := (.inr (.inl (fun _ => 0)))) C hz hS hA rfl mA_long rfl (fun _ => rfl) (by rw [hxt]; exact nI_add 3 t) (by omega) (by decide) (Nat.le_of_ble_eq_true rfl) (Nat.le_trans (Nat.add_le_add_left (show 3 + t ≤ 15 by omega) _) (Nat.le_of_ble_eq_true rfl)) dX7_rowParts_3 (fun q1 H f3 u2 a4 k5 hz hS => ?_)
  refine W.widen (k := 1) (n := 15) (Nat.le_of_ble_eq_true rfl) (Nat.le_trans (Nat.add_le_add_left (show 3 + t ≤ 15 by omega) _) (Nat.le_of_ble_eq_true rfl)) ?_
  refine lv_astore (lv' := [(4, .ref q1), (0, .ref o), (1, .int x), (2, .int y), (3, .int z)]) hx hb dX7_rowParts_5 hl (by decide) rfl (fun ls hl => ?_)
  refine lv_aload hx hb dX7_rowParts_7 (lv_at hl 0 rfl) ?_
  refine lv_iconst (v := 0) hx hb dX7_rowParts_9 (by decide) ?_
  refine lv_iload_n hx hb dX7_rowParts_10 rfl (lv_at hl 2 rfl) ?_
  refine lv_i2l (v := x.toInt64) hx hb dX7_rowParts_11 rfl ?_
  refine z_last 0 C hz hS a4 (by decide) (by omega) (by omega) dX7_rowParts_12 (fun H locs f6 a7 k8 hz hS => ?_)
  refine lv_aload hx hb dX7_rowParts_13 (lv_at hl 0 rfl) ?_
  refine lv_iconst (v := 1) hx hb dX7_rowParts_15 (by decide) ?_
  refine lv_iload_n hx hb dX7_rowParts_16 rfl (lv_at hl 3 rfl) ?_
  refine lv_i2l (v := y.toInt64) hx hb dX7_rowParts_17 rfl ?_
  refine z_last 1 C hz hS a7 (by decide) (by omega) (by omega) dX7_rowParts_18 (fun H locs f9 a10 k11 hz hS => ?_)
  refine lv_aload hx hb dX7_rowParts_19 (lv_at hl 0 rfl) ?_
  refine lv_iconst (v := 2) hx hb dX7_rowParts_21 (by decide) ?_
  refine lv_iload_n hx hb dX7_rowParts_22 rfl (lv_at hl 4 rfl) ?_
  refine lv_i2l (v := z.toInt64) hx hb dX7_rowParts_23 rfl ?_
  refine z_last 2 C hz hS a10 (by decide) (by omega) (by omega) dX7_rowParts_24 (fun H locs f12 a13 k14 hz hS => ?_)
  refine lv_iconst (v := 0) hx hb dX7_rowParts_25 (by decide) ?_
  refine lv_istore (lv' := [(5, .int 0), (4, .ref q1), (0, .ref o), (1, .int x), (2, .int y), (3, .int z)]) hx hb dX7_rowParts_26 hl (by decide) rfl (fun ls hl => ?_)
  have lp15 : ∀ (n : Nat) (i : Nat) (gp : Nat → Int64) (fL : zM) (H : Heap) (locs : List Loc) (ls : Array Slot), (t - i) < n → (i ≤ t) → fL q1 = some (.inl (cy 1, (3 + t), .inr (.inl gp))) → (∀ (b : Nat) (e : va_E), f12 b = some e → b ≠ q1 → fL b = some e) → zH D (zA f s.heap.size) fL H → va_S (zA f s.heap.size) s.heap H locs → lv_has ls 6 [(0, .ref o), (1, .int x), (4, .ref q1), (5, .int (nI i))] → W p l e rmX7_rowParts s m ([.ref o, .int x, .int y, .int z] : List Value).toArray below meth c H locs 1 15 (MQ below (va_Qq (fun (r : Option Nat) (f1 : zM) => ∃ (pa : Nat) (gp : Nat → Int64), r = (some pa) ∧ f1 pa = some (.inl (cy 1, (3 + t), .inr (.inl gp))) ∧ (∀ (b : Nat) (e : va_E), f b = some e → f1 b = some e)) (zB D f s.heap.size) (zA f s.heap.size)) ([.ref o, .int x, .int y, .int z] : List Value).toArray s rmX7_rowParts.cells rmX7_rowParts.slots (zA f s.heap.size)) (F0 m 28 ls []) := by
    intro n
    induction n with
    | zero => intro i gp fL H locs ls hm; exact absurd hm (Nat.not_lt_zero _)
    | succ n ih =>
      intro i gp fL H locs ls hm hi a17 k16 hz hS hl
      refine lv_iload hx hb dX7_rowParts_28 (lv_at hl 3 rfl) ?_
      refine lv_iload_n hx hb dX7_rowParts_30 rfl (lv_at hl 1 rfl) ?_
      refine lv_icmp_ge (tgt := 54) hx hb dX7_rowParts_31 (by decide) (fun c18 => ?_) (fun c18 => ?_)
      · refine lv_aload hx hb dX7_rowParts_54 (lv_at hl 2 rfl) ?_
        exact z_aret (r := some q1) C hr (Or.inr ⟨_, rfl⟩) rfl hz hS ⟨q1, gp, rfl, a17, (by
              intro b e hb 
              have nn0 : b ≠ q1 := z_nn u2 hb
              have hb0 : f3 b = some e := (k5 b nn0).trans hb
              have hb1 : f6 b = some e := (k8 b nn0).trans hb0
              have hb2 : f9 b = some e := (k11 b nn0).trans hb1
              have hb3 : f12 b = some e := (k14 b nn0).trans hb2
              have hb4 : fL b = some e := k16 b e hb3 nn0
              exact hb4)⟩ (Nat.le_of_ble_eq_true rfl) (Nat.le_of_ble_eq_true rfl) dX7_rowParts_56
      · replace c18 : i < t := by rw [hxt] at c18; exact Nat.not_le.mp (fun h => c18 ((nI_leI (by omega) (by omega)).mpr h))
        refine lv_aload hx hb dX7_rowParts_34 (lv_at hl 2 rfl) ?_
        refine lv_iconst (v := 3) hx hb dX7_rowParts_36 (by decide) ?_
        refine lv_iload hx hb dX7_rowParts_37 (lv_at hl 3 rfl) ?_
        refine lv_iadd hx hb dX7_rowParts_39 ?_
        refine lv_aload_n hx hb dX7_rowParts_40 rfl (lv_at hl 0 rfl) ?_
        refine lv_iload hx hb dX7_rowParts_41 (lv_at hl 3 rfl) ?_
        have a19 : f3 o = some (.inr (7, [.ref fa, .ref fi, .ref nu, .int 0, .ref fm, .int 0, .ref co, .int 0, .ref en, .ref ke, .long 1])) := (k5 _ (z_nn u2 p0)).trans p0
        have a20 : f6 o = some (.inr (7, [.ref fa, .ref fi, .ref nu, .int 0, .ref fm, .int 0, .ref co, .int 0, .ref en, .ref ke, .long 1])) := (k8 _ (z_nn u2 p0)).trans a19
        have a21 : f9 o = some (.inr (7, [.ref fa, .ref fi, .ref nu, .int 0, .ref fm, .int 0, .ref co, .int 0, .ref en, .ref ke, .long 1])) := (k11 _ (z_nn u2 p0)).trans a20
        have a22 : f12 o = some (.inr (7, [.ref fa, .ref fi, .ref nu, .int 0, .ref fm, .int 0, .ref co, .int 0, .ref en, .ref ke, .long 1])) := (k14 _ (z_nn u2 p0)).trans a21
        have a23 : fL o = some (.inr (7, [.ref fa, .ref fi, .ref nu, .int 0, .ref fm, .int 0, .ref co, .int 0, .ref en, .ref ke, .long 1])) := k16 _ _ a22 (z_nn u2 p0)
        refine z_callVi (As := [.int (nI i)]) C hz hS hA hl (k_X7_numberAt l D cy fL o fa fi nu fm co en ke (nI i) a23 ) zyX7_numberAt mMX7_116 a23 zl7 rfl rfl (Nat.le_of_ble_eq_true rfl) ⟨Nat.le_of_ble_eq_true rfl, Nat.le_of_ble_eq_true rfl⟩ ⟨Nat.le_of_ble_eq_true rfl, Nat.le_of_ble_eq_true rfl⟩ dX7_rowParts_43 (fun r f24 H locs h25 hz hS => ?_)
        obtain ⟨rfl, k26⟩ := h25
        refine lv_i2l (v := (0 : Int32).toInt64) hx hb dX7_rowParts_46 rfl ?_
        have a27 : f24 q1 = some (.inl (cy 1, (3 + t), .inr (.inl gp))) := k26 _ _ a17 
        refine z_last (3 + i) C hz hS a27 (nI_add 3 i) (by omega) (by omega) dX7_rowParts_47 (fun H locs f28 a29 k30 hz hS => ?_)
        refine lv_iinc (v := nI (i + 1)) (lv' := [(5, .int (nI (i + 1))), (0, .ref o), (1, .int x), (4, .ref q1)]) hx hb dX7_rowParts_48 hl (k := 3) rfl (nI_1 i) (by decide) rfl (fun ls hl => ?_)
        refine lv_goto (tgt := 28) hx hb dX7_rowParts_51 (by decide) ?_
        exact ih (i + 1) (vp_updL gp (3 + i) ((0 : Int32).toInt64)) _ _ _ _ (by omega) (by omega) a29 (by
              intro b e hb n0
              have hb4 : fL b = some e := k16 b e hb n0
              have hb5 : f24 b = some e := k26 b e hb4 
              have hb6 : f28 b = some e := (k30 b n0).trans hb5
              exact hb6) hz hS (lv_sub hl [1, 2, 3, 0] rfl)
  exact lp15 (t - 0 + 1) 0 (vp_updL (vp_updL (vp_updL (fun _ => 0) 0 x.toInt64) 1 y.toInt64) 2 z.toInt64) _ _ _ _ (Nat.lt_succ_self _) (by omega) a13 (fun b e hb n0 => hb) hz hS (lv_sub hl [2, 3, 1, 0] rfl)
abbrev rmX7_row : Room := { frames := 2, cells := 2, slots := 22, locals := 48 }
set_option maxHeartbeats 4000000 in
set_option maxRecDepth 100000 in
theorem k_X7_row (l : Launch) (D : va_G) (cy : Nat → ClassId) (f : zM) (o : Nat) (fa : Nat) (fi : Nat) (nu : Nat) (fm : Nat) (co : Nat) (en : Nat) (ke : Nat) (x : Int32) (y : Int32) (u1 : Int32) (u2 : Int32) (u3 : Int32) (ev : Nat) (al : Nat) (ra : Nat) (ga : Nat → Option Nat) (gr : Nat → Option Nat) (g : Nat → Int32) (p0 : f o = some (.inr (7, [.ref fa, .ref fi, .ref nu, .int 0, .ref fm, .int 0, .ref co, .int 0, .ref en, .ref ke, .long 1]))) (p1 : f fa = some (.inr (2, [.int u1, .int u2, .int u3, .ref ev]))) (p2 : f fi = some (.inr (5, [.ref al, .ref ra, .int 0]))) (p3 : f al = some (.inl (cy 3, 60, .inr (.inr (.inr (.inr ga)))))) (p4 : f ra = some (.inl (cy 3, 60, .inr (.inr (.inr (.inr gr)))))) (p5 : f ev = some (.inl (cy 0, 8, .inl g))) (har : al ≠ ra) : zCi l D cy yX7_row cX7_row 4 (Option.some Jvm.ClassFile.FieldType.int) rmX7_row [.ref o, .int x, .int y] f (fun (r : Int32) (f1 : zM) => r = (if x ≤ 12 then (if 0 ≤ x then (if y < 0 then (-4) else if y < x then 0 else (-4)) else (-4)) else (-2)) ∧ (∀ (b : Nat) (e : va_E), f b = some e → b ≠ fa → b ≠ fi → b ≠ al → b ≠ ra → b ≠ ev → f1 b = some e)) := by
  intro sz
  refine z_body (by decide +kernel) (Nat.le_of_ble_eq_true rfl) ?_
  intro p e s m below meth c ls C hr hin hsz hz hl
  subst hsz
  have hx := C.1
  have hb := C.2.1
  have hA : ∀ q, s.heap.size ≤ q → zA f s.heap.size q := fun q h => Or.inr h
  have hS : va_S (zA f s.heap.size) s.heap s.heap [] := va_S.rf
  have hl : lv_has ls 4 [(0, .ref o), (1, .int x), (2, .int y)] := hl
  refine lv_aload_n hx hb dX7_row_0 rfl (lv_at hl 0 rfl) ?_
  refine z_get (v := .ref fa) C hz p0 zl7 mFX7_10 (by decide) rfl dX7_row_1 ?_
  refine z_callVv (As := []) C hz hS hA hl (k_X2_none l D cy f fa u1 u2 u3 ev p1 ) zyX2_none mMX7_76 p1 zl2 rfl rfl (Nat.le_of_ble_eq_true rfl) ⟨Nat.le_of_ble_eq_true rfl, Nat.le_of_ble_eq_true rfl⟩ ⟨Nat.le_of_ble_eq_true rfl, Nat.le_of_ble_eq_true rfl⟩ dX7_row_4 (fun  f1 H locs h2 hz hS => ?_)
  obtain ⟨a3, k4⟩ := h2
  refine lv_iload_n hx hb dX7_row_7 rfl (lv_at hl 1 rfl) ?_
  refine lv_bipush (v := 12) hx hb dX7_row_8 (by decide) ?_
  refine lv_icmp_le (tgt := 16) hx hb dX7_row_10 (by decide) (fun c5 => ?_) (fun c5 => ?_)
  · refine lv_aload_n hx hb dX7_row_16 rfl (lv_at hl 0 rfl) ?_
    have a6 : f1 o = some (.inr (7, [.ref fa, .ref fi, .ref nu, .int 0, .ref fm, .int 0, .ref co, .int 0, .ref en, .ref ke, .long 1])) := k4 _ _ p0 (z_ne p0 p1 rfl)
    refine z_get (v := .ref fi) C hz a6 zl7 mFX7_19 (by decide) rfl dX7_row_17 ?_
    have a7 : f1 fi = some (.inr (5, [.ref al, .ref ra, .int 0])) := k4 _ _ p2 (z_ne p2 p1 rfl)
    refine z_callVi (As := []) C hz hS hA hl (k_X5_isFull l D cy f1 fi al ra a7 ) zyX5_isFull mMX7_79 a7 zl5 rfl rfl (Nat.le_of_ble_eq_true rfl) ⟨Nat.le_of_ble_eq_true rfl, Nat.le_of_ble_eq_true rfl⟩ ⟨Nat.le_of_ble_eq_true rfl, Nat.le_of_ble_eq_true rfl⟩ dX7_row_20 (fun r f8 H locs h9 hz hS => ?_)
    obtain ⟨rfl, k10⟩ := h9
    refine lv_if_eq (tgt := 29) hx hb dX7_row_23 (by decide) (fun c11 => ?_) (fun c11 => ?_)
    rotate_left
    · exact absurd c11 (by decide)
    refine lv_iload_n hx hb dX7_row_29 rfl (lv_at hl 1 rfl) ?_
    refine lv_if_ge (tgt := 43) hx hb dX7_row_30 (by decide) (fun c12 => ?_) (fun c12 => ?_)
    · refine lv_iload_n hx hb dX7_row_43 rfl (lv_at hl 2 rfl) ?_
      refine lv_if_lt (tgt := 52) hx hb dX7_row_44 (by decide) (fun c13 => ?_) (fun c13 => ?_)
      · refine lv_aload_n hx hb dX7_row_52 rfl (lv_at hl 0 rfl) ?_
        have a14 : f8 o = some (.inr (7, [.ref fa, .ref fi, .ref nu, .int 0, .ref fm, .int 0, .ref co, .int 0, .ref en, .ref ke, .long 1])) := k10 _ _ a6 
        refine z_get (v := .ref fa) C hz a14 zl7 mFX7_10 (by decide) rfl dX7_row_53 ?_
        refine lv_iconst (v := 2) hx hb dX7_row_56 (by decide) ?_
        refine lv_iconst (v := 1) hx hb dX7_row_57 (by decide) ?_
        have a15 : f8 fa = some (.inr (2, [.int 0, .int (-1), .int 0, .ref ev])) := k10 _ _ a3 
        have a16 : f1 ev = some (.inl (cy 0, 8, .inl g)) := k4 _ _ p5 (z_ne p5 p1 rfl)
        have a17 : f8 ev = some (.inl (cy 0, 8, .inl g)) := k10 _ _ a16 
        refine z_callVi (As := [.int 2, .int 1]) C hz hS hA hl (k_X2_inPart l D cy f8 fa 2 1 0 (-1) 0 ev g 2 a15 a17 (by decide) (Nat.le_of_ble_eq_true rfl)) zyX2_inPart mMX7_104 a15 zl2 rfl rfl (Nat.le_of_ble_eq_true rfl) ⟨Nat.le_of_ble_eq_true rfl, Nat.le_of_ble_eq_true rfl⟩ ⟨Nat.le_of_ble_eq_true rfl, Nat.le_of_ble_eq_true rfl⟩ dX7_row_58 (fun r f18 H locs h19 hz hS => ?_)
        obtain ⟨rfl, a20, a21, k22⟩ := h19
        exact z_iret C hr rfl hz hS ⟨(by simp [c5, c11, c12, c13]), (by
              intro b e hb n0 n1 n2 n3 n4
              have hb0 : f1 b = some e := k4 b e hb n0
              have hb1 : f8 b = some e := k10 b e hb0 
              have hb2 : f18 b = some e := k22 b e hb1 n0 n4
              exact hb2)⟩ (Nat.le_of_ble_eq_true rfl) (Nat.le_of_ble_eq_true rfl) dX7_row_61
      · refine lv_iload_n hx hb dX7_row_47 rfl (lv_at hl 2 rfl) ?_
        refine lv_iload_n hx hb dX7_row_48 rfl (lv_at hl 1 rfl) ?_
        refine lv_icmp_lt (tgt := 62) hx hb dX7_row_49 (by decide) (fun c23 => ?_) (fun c23 => ?_)
        · obtain ⟨t, ht, hxt⟩ := z_ixn (n := 12) (by decide) c12 c5
          refine lv_aload_n hx hb dX7_row_62 rfl (lv_at hl 0 rfl) ?_
          refine lv_iload_n hx hb dX7_row_63 rfl (lv_at hl 2 rfl) ?_
          have a24 : f8 o = some (.inr (7, [.ref fa, .ref fi, .ref nu, .int 0, .ref fm, .int 0, .ref co, .int 0, .ref en, .ref ke, .long 1])) := k10 _ _ a6 
          refine z_callVi (As := [.int y]) C hz hS hA hl (k_X7_numberAt l D cy f8 o fa fi nu fm co en ke y a24 ) zyX7_numberAt mMX7_116 a24 zl7 rfl rfl (Nat.le_of_ble_eq_true rfl) ⟨Nat.le_of_ble_eq_true rfl, Nat.le_of_ble_eq_true rfl⟩ ⟨Nat.le_of_ble_eq_true rfl, Nat.le_of_ble_eq_true rfl⟩ dX7_row_64 (fun r f25 H locs h26 hz hS => ?_)
          obtain ⟨rfl, k27⟩ := h26
          refine lv_istore_n (lv' := [(3, .int 0), (0, .ref o), (1, .int x), (2, .int y)]) hx hb dX7_row_67 rfl hl (by decide) rfl (fun ls hl => ?_)
          refine lv_aload_n hx hb dX7_row_68 rfl (lv_at hl 1 rfl) ?_
          have a28 : f25 o = some (.inr (7, [.ref fa, .ref fi, .ref nu, .int 0, .ref fm, .int 0, .ref co, .int 0, .ref en, .ref ke, .long 1])) := k27 _ _ a24 
          refine z_get (v := .ref fi) C hz a28 zl7 mFX7_19 (by decide) rfl dX7_row_69 ?_
          refine z_new (fs := [.int 0, .null, .long 0, .int 0, .int 0, .int 0, .int 0]) C hz hS hA zl4 mLX7_83 mIa_RX4 mIn_RX4 (by decide +kernel) (Nat.le_of_ble_eq_true rfl) (Nat.le_of_ble_eq_true rfl) dX7_row_72 (fun q29 H f31 u30 a32 k33 hz hS => ?_)
          refine lv_dup hx hb dX7_row_75 rfl ?_
          refine lv_iconst (v := 5) hx hb dX7_row_76 (by decide) ?_
          refine lv_aload_n hx hb dX7_row_77 rfl (lv_at hl 1 rfl) ?_
          refine lv_iload_n hx hb dX7_row_78 rfl (lv_at hl 2 rfl) ?_
          refine lv_iload_n hx hb dX7_row_79 rfl (lv_at hl 3 rfl) ?_
          refine lv_iload_n hx hb dX7_row_80 rfl (lv_at hl 0 rfl) ?_
          have a34 : f31 o = some (.inr (7, [.ref fa, .ref fi, .ref nu, .int 0, .ref fm, .int 0, .ref co, .int 0, .ref en, .ref ke, .long 1])) := (k33 _ (z_nn u30 a28)).trans a28
          refine z_callVq (As := [.int x, .int y, .int 0]) C hz hS hA hl (k_X7_rowParts l D cy f31 o fa fi nu fm co en ke x y 0 t a34 hxt ht) zyX7_rowParts mMX7_120 a34 zl7 rfl rfl (Nat.le_of_ble_eq_true rfl) ⟨Nat.le_of_ble_eq_true rfl, Nat.le_of_ble_eq_true rfl⟩ ⟨Nat.le_of_ble_eq_true rfl, Nat.le_of_ble_eq_true rfl⟩ dX7_row_81 (fun r f35 H locs h36 hz hS => ?_)
          obtain ⟨pa_37, gp_38, rfl, a39, k40⟩ := h36
          refine W.eq (g2 := F0 m 84 ls [.ref pa_37, .int 5, .ref q29, .ref q29, .ref fi]) rfl ?_
          refine lv_iload_n hx hb dX7_row_84 rfl (lv_at hl 0 rfl) ?_
          refine lv_i2l (v := (0 : Int32).toInt64) hx hb dX7_row_85 rfl ?_
          have a41 : f35 q29 = some (.inr (4, [.int 0, .null, .long 0, .int 0, .int 0, .int 0, .int 0])) := k40 _ _ a32 
          refine z_callIv (ret := none) (As := [.int 5, .ref pa_37, .long ((0 : Int32).toInt64)]) C hz hS hA hl (k_X4_init l D cy f35 q29 5 pa_37 ((0 : Int32).toInt64) a41 ) zyX4_init mMX7_89 rfl rfl (Nat.le_of_ble_eq_true rfl) ⟨Nat.le_of_ble_eq_true rfl, Nat.le_of_ble_eq_true rfl⟩ ⟨Nat.le_of_ble_eq_true rfl, Nat.le_of_ble_eq_true rfl⟩ dX7_row_86 (fun  f42 H locs h43 hz hS => ?_)
          obtain ⟨a44, k45⟩ := h43
          have a46 : f8 fi = some (.inr (5, [.ref al, .ref ra, .int 0])) := k10 _ _ a7 
          have a47 : f25 fi = some (.inr (5, [.ref al, .ref ra, .int 0])) := k27 _ _ a46 
          have a48 : f31 fi = some (.inr (5, [.ref al, .ref ra, .int 0])) := (k33 _ (z_nn u30 a47)).trans a47
          have a49 : f35 fi = some (.inr (5, [.ref al, .ref ra, .int 0])) := k40 _ _ a48 
          have a50 : f42 fi = some (.inr (5, [.ref al, .ref ra, .int 0])) := k45 _ _ a49 (z_nn u30 a47)
          have a51 : f1 al = some (.inl (cy 3, 60, .inr (.inr (.inr (.inr ga))))) := k4 _ _ p3 (z_ne p3 p1 rfl)
          have a52 : f8 al = some (.inl (cy 3, 60, .inr (.inr (.inr (.inr ga))))) := k10 _ _ a51 
          have a53 : f25 al = some (.inl (cy 3, 60, .inr (.inr (.inr (.inr ga))))) := k27 _ _ a52 
          have a54 : f31 al = some (.inl (cy 3, 60, .inr (.inr (.inr (.inr ga))))) := (k33 _ (z_nn u30 a53)).trans a53
          have a55 : f35 al = some (.inl (cy 3, 60, .inr (.inr (.inr (.inr ga))))) := k40 _ _ a54 
          have a56 : f42 al = some (.inl (cy 3, 60, .inr (.inr (.inr (.inr ga))))) := k45 _ _ a55 (z_nn u30 a53)
          have a57 : f1 ra = some (.inl (cy 3, 60, .inr (.inr (.inr (.inr gr))))) := k4 _ _ p4 (z_ne p4 p1 rfl)
          have a58 : f8 ra = some (.inl (cy 3, 60, .inr (.inr (.inr (.inr gr))))) := k10 _ _ a57 
          have a59 : f25 ra = some (.inl (cy 3, 60, .inr (.inr (.inr (.inr gr))))) := k27 _ _ a58 
          have a60 : f31 ra = some (.inl (cy 3, 60, .inr (.inr (.inr (.inr gr))))) := (k33 _ (z_nn u30 a59)).trans a59
          have a61 : f35 ra = some (.inl (cy 3, 60, .inr (.inr (.inr (.inr gr))))) := k40 _ _ a60 
          have a62 : f42 ra = some (.inl (cy 3, 60, .inr (.inr (.inr (.inr gr))))) := k45 _ _ a61 (z_nn u30 a59)
          have a63 : f42 pa_37 = some (.inl (cy 1, (3 + t), .inr (.inl gp_38))) := k45 _ _ a39 (z_neO a39 a41 rfl)
          refine z_callVi (As := [.ref q29]) C hz hS hA hl (k_X5_add l D cy f42 fi al ra ga gr q29 5 pa_37 ((0 : Int32).toInt64) 0 (-1) 0 0 (3 + t) gp_38 a50 a56 a62 a44 a63 (by decide) (by omega) har) zyX5_add mMX7_92 a50 zl5 rfl rfl (Nat.le_of_ble_eq_true rfl) ⟨Nat.le_of_ble_eq_true rfl, Nat.le_of_ble_eq_true rfl⟩ ⟨Nat.le_of_ble_eq_true rfl, Nat.le_of_ble_eq_true rfl⟩ dX7_row_89 (fun r f64 H locs h65 hz hS => ?_)
          obtain ⟨rfl, k66⟩ := h65
          exact z_iret C hr rfl hz hS ⟨(by simp [c5, c11, c12, c13, c23]), (by
                intro b e hb n0 n1 n2 n3 n4
                have hb0 : f1 b = some e := k4 b e hb n0
                have hb1 : f8 b = some e := k10 b e hb0 
                have hb2 : f25 b = some e := k27 b e hb1 
                have nn3 : b ≠ q29 := z_nn u30 hb2
                have hb3 : f31 b = some e := (k33 b nn3).trans hb2
                have hb4 : f35 b = some e := k40 b e hb3 
                have hb5 : f42 b = some e := k45 b e hb4 nn3
                have hb6 : f64 b = some e := k66 b e hb5 n1 n2 n3 nn3
                exact hb6)⟩ (Nat.le_of_ble_eq_true rfl) (Nat.le_of_ble_eq_true rfl) dX7_row_92
        · refine lv_aload_n hx hb dX7_row_52 rfl (lv_at hl 0 rfl) ?_
          have a67 : f8 o = some (.inr (7, [.ref fa, .ref fi, .ref nu, .int 0, .ref fm, .int 0, .ref co, .int 0, .ref en, .ref ke, .long 1])) := k10 _ _ a6 
          refine z_get (v := .ref fa) C hz a67 zl7 mFX7_10 (by decide) rfl dX7_row_53 ?_
          refine lv_iconst (v := 2) hx hb dX7_row_56 (by decide) ?_
          refine lv_iconst (v := 1) hx hb dX7_row_57 (by decide) ?_
          have a68 : f8 fa = some (.inr (2, [.int 0, .int (-1), .int 0, .ref ev])) := k10 _ _ a3 
          have a69 : f1 ev = some (.inl (cy 0, 8, .inl g)) := k4 _ _ p5 (z_ne p5 p1 rfl)
          have a70 : f8 ev = some (.inl (cy 0, 8, .inl g)) := k10 _ _ a69 
          refine z_callVi (As := [.int 2, .int 1]) C hz hS hA hl (k_X2_inPart l D cy f8 fa 2 1 0 (-1) 0 ev g 2 a68 a70 (by decide) (Nat.le_of_ble_eq_true rfl)) zyX2_inPart mMX7_104 a68 zl2 rfl rfl (Nat.le_of_ble_eq_true rfl) ⟨Nat.le_of_ble_eq_true rfl, Nat.le_of_ble_eq_true rfl⟩ ⟨Nat.le_of_ble_eq_true rfl, Nat.le_of_ble_eq_true rfl⟩ dX7_row_58 (fun r f71 H locs h72 hz hS => ?_)
          obtain ⟨rfl, a73, a74, k75⟩ := h72
          exact z_iret C hr rfl hz hS ⟨(by simp [c5, c11, c12, c13, c23]), (by
                intro b e hb n0 n1 n2 n3 n4
                have hb0 : f1 b = some e := k4 b e hb n0
                have hb1 : f8 b = some e := k10 b e hb0 
                have hb2 : f71 b = some e := k75 b e hb1 n0 n4
                exact hb2)⟩ (Nat.le_of_ble_eq_true rfl) (Nat.le_of_ble_eq_true rfl) dX7_row_61
    · refine lv_aload_n hx hb dX7_row_33 rfl (lv_at hl 0 rfl) ?_
      have a76 : f8 o = some (.inr (7, [.ref fa, .ref fi, .ref nu, .int 0, .ref fm, .int 0, .ref co, .int 0, .ref en, .ref ke, .long 1])) := k10 _ _ a6 
      refine z_get (v := .ref fa) C hz a76 zl7 mFX7_10 (by decide) rfl dX7_row_34 ?_
      refine lv_iconst (v := 5) hx hb dX7_row_37 (by decide) ?_
      refine lv_iconst (v := 0) hx hb dX7_row_38 (by decide) ?_
      have a77 : f8 fa = some (.inr (2, [.int 0, .int (-1), .int 0, .ref ev])) := k10 _ _ a3 
      have a78 : f1 ev = some (.inl (cy 0, 8, .inl g)) := k4 _ _ p5 (z_ne p5 p1 rfl)
      have a79 : f8 ev = some (.inl (cy 0, 8, .inl g)) := k10 _ _ a78 
      refine z_callVi (As := [.int 5, .int 0]) C hz hS hA hl (k_X2_inPart l D cy f8 fa 5 0 0 (-1) 0 ev g 5 a77 a79 (by decide) (Nat.le_of_ble_eq_true rfl)) zyX2_inPart mMX7_104 a77 zl2 rfl rfl (Nat.le_of_ble_eq_true rfl) ⟨Nat.le_of_ble_eq_true rfl, Nat.le_of_ble_eq_true rfl⟩ ⟨Nat.le_of_ble_eq_true rfl, Nat.le_of_ble_eq_true rfl⟩ dX7_row_39 (fun r f80 H locs h81 hz hS => ?_)
      obtain ⟨rfl, a82, a83, k84⟩ := h81
      exact z_iret C hr rfl hz hS ⟨(by simp [c5, c11, c12]), (by
            intro b e hb n0 n1 n2 n3 n4
            have hb0 : f1 b = some e := k4 b e hb n0
            have hb1 : f8 b = some e := k10 b e hb0 
            have hb2 : f80 b = some e := k84 b e hb1 n0 n4
            exact hb2)⟩ (Nat.le_of_ble_eq_true rfl) (Nat.le_of_ble_eq_true rfl) dX7_row_42
  · refine lv_bipush (v := (-2)) hx hb dX7_row_13 (by decide) ?_
    exact z_iret C hr rfl hz hS ⟨(by simp [c5]), (by
          intro b e hb n0 n1 n2 n3 n4
          have hb0 : f1 b = some e := k4 b e hb n0
          exact hb0)⟩ (Nat.le_of_ble_eq_true rfl) (Nat.le_of_ble_eq_true rfl) dX7_row_15
abbrev rmX7_shelf : Room := { frames := 2, cells := 2, slots := 20, locals := 48 }
set_option maxHeartbeats 4000000 in
set_option maxRecDepth 100000 in
theorem k_X7_shelf (l : Launch) (D : va_G) (cy : Nat → ClassId) (f : zM) (o : Nat) (fa : Nat) (fi : Nat) (nu : Nat) (fm : Nat) (co : Nat) (en : Nat) (ke : Nat) (w : Int32) (x : Int32) (u1 : Int32) (u2 : Int32) (u3 : Int32) (ev : Nat) (al : Nat) (ra : Nat) (ga : Nat → Option Nat) (gr : Nat → Option Nat) (g : Nat → Int32) (p0 : f o = some (.inr (7, [.ref fa, .ref fi, .ref nu, .int 0, .ref fm, .int 0, .ref co, .int 0, .ref en, .ref ke, .long 1]))) (p1 : f fa = some (.inr (2, [.int u1, .int u2, .int u3, .ref ev]))) (p2 : f fi = some (.inr (5, [.ref al, .ref ra, .int 0]))) (p3 : f al = some (.inl (cy 3, 60, .inr (.inr (.inr (.inr ga)))))) (p4 : f ra = some (.inl (cy 3, 60, .inr (.inr (.inr (.inr gr)))))) (p5 : f ev = some (.inl (cy 0, 8, .inl g))) (har : al ≠ ra) (hw : w = 0 ∨ w = 1) : zCi l D cy yX7_shelf cX7_shelf 5 (Option.some Jvm.ClassFile.FieldType.int) rmX7_shelf [.ref o, .int w, .int x] f (fun (r : Int32) (f1 : zM) => r = (if x ≤ 12 then (if 0 ≤ x then 0 else (-4)) else (-2)) ∧ (∀ (b : Nat) (e : va_E), f b = some e → b ≠ fa → b ≠ fi → b ≠ al → b ≠ ra → b ≠ ev → f1 b = some e)) := by
  intro sz
  refine z_body (by decide +kernel) (Nat.le_of_ble_eq_true rfl) ?_
  intro p e s m below meth c ls C hr hin hsz hz hl
  subst hsz
  have hx := C.1
  have hb := C.2.1
  have hA : ∀ q, s.heap.size ≤ q → zA f s.heap.size q := fun q h => Or.inr h
  have hS : va_S (zA f s.heap.size) s.heap s.heap [] := va_S.rf
  have hl : lv_has ls 5 [(0, .ref o), (1, .int w), (2, .int x)] := hl
  refine lv_aload_n hx hb dX7_shelf_0 rfl (lv_at hl 0 rfl) ?_
  refine z_get (v := .ref fa) C hz p0 zl7 mFX7_10 (by decide) rfl dX7_shelf_1 ?_
  refine z_callVv (As := []) C hz hS hA hl (k_X2_none l D cy f fa u1 u2 u3 ev p1 ) zyX2_none mMX7_76 p1 zl2 rfl rfl (Nat.le_of_ble_eq_true rfl) ⟨Nat.le_of_ble_eq_true rfl, Nat.le_of_ble_eq_true rfl⟩ ⟨Nat.le_of_ble_eq_true rfl, Nat.le_of_ble_eq_true rfl⟩ dX7_shelf_4 (fun  f1 H locs h2 hz hS => ?_)
  obtain ⟨a3, k4⟩ := h2
  refine lv_iload_n hx hb dX7_shelf_7 rfl (lv_at hl 2 rfl) ?_
  refine lv_bipush (v := 12) hx hb dX7_shelf_8 (by decide) ?_
  refine lv_icmp_le (tgt := 16) hx hb dX7_shelf_10 (by decide) (fun c5 => ?_) (fun c5 => ?_)
  · refine lv_aload_n hx hb dX7_shelf_16 rfl (lv_at hl 0 rfl) ?_
    have a6 : f1 o = some (.inr (7, [.ref fa, .ref fi, .ref nu, .int 0, .ref fm, .int 0, .ref co, .int 0, .ref en, .ref ke, .long 1])) := k4 _ _ p0 (z_ne p0 p1 rfl)
    refine z_get (v := .ref fi) C hz a6 zl7 mFX7_19 (by decide) rfl dX7_shelf_17 ?_
    have a7 : f1 fi = some (.inr (5, [.ref al, .ref ra, .int 0])) := k4 _ _ p2 (z_ne p2 p1 rfl)
    refine z_callVi (As := []) C hz hS hA hl (k_X5_isFull l D cy f1 fi al ra a7 ) zyX5_isFull mMX7_79 a7 zl5 rfl rfl (Nat.le_of_ble_eq_true rfl) ⟨Nat.le_of_ble_eq_true rfl, Nat.le_of_ble_eq_true rfl⟩ ⟨Nat.le_of_ble_eq_true rfl, Nat.le_of_ble_eq_true rfl⟩ dX7_shelf_20 (fun r f8 H locs h9 hz hS => ?_)
    obtain ⟨rfl, k10⟩ := h9
    refine lv_if_eq (tgt := 29) hx hb dX7_shelf_23 (by decide) (fun c11 => ?_) (fun c11 => ?_)
    rotate_left
    · exact absurd c11 (by decide)
    refine lv_iload_n hx hb dX7_shelf_29 rfl (lv_at hl 2 rfl) ?_
    refine lv_if_ge (tgt := 43) hx hb dX7_shelf_30 (by decide) (fun c12 => ?_) (fun c12 => ?_)
    · obtain ⟨t, ht, hxt⟩ := z_ixn (n := 12) (by decide) c12 c5
      refine lv_iconst (v := 1) hx hb dX7_shelf_43 (by decide) ?_
      refine lv_iload_n hx hb dX7_shelf_44 rfl (lv_at hl 2 rfl) ?_
      refine lv_iadd hx hb dX7_shelf_45 ?_
      refine z_newa (atype := .long) (t0 := 1) (N' := 1 + t) (x := (.inr (.inl (fun _ => 0)))) C hz hS hA rfl mA_long rfl (fun _ => rfl) (by rw [hxt]; exact nI_add 1 t) (by omega) (by decide) (Nat.le_of_ble_eq_true rfl) (Nat.le_trans (Nat.add_le_add_left (show 1 + t ≤ 13 by omega) _) (Nat.le_of_ble_eq_true rfl)) dX7_shelf_46 (fun q13 H f15 u14 a16 k17 hz hS => ?_)
      refine W.widen (k := 1) (n := 13) (Nat.le_of_ble_eq_true rfl) (Nat.le_trans (Nat.add_le_add_left (show 1 + t ≤ 13 by omega) _) (Nat.le_of_ble_eq_true rfl)) ?_
      refine lv_astore_n (lv' := [(3, .ref q13), (0, .ref o), (1, .int w), (2, .int x)]) hx hb dX7_shelf_48 rfl hl (by decide) rfl (fun ls hl => ?_)
      refine lv_aload_n hx hb dX7_shelf_49 rfl (lv_at hl 0 rfl) ?_
      refine lv_iconst (v := 0) hx hb dX7_shelf_50 (by decide) ?_
      refine lv_iload_n hx hb dX7_shelf_51 rfl (lv_at hl 3 rfl) ?_
      refine lv_i2l (v := x.toInt64) hx hb dX7_shelf_52 rfl ?_
      refine z_last 0 C hz hS a16 (by decide) (by omega) (by omega) dX7_shelf_53 (fun H locs f18 a19 k20 hz hS => ?_)
      refine lv_iconst (v := 1) hx hb dX7_shelf_54 (by decide) ?_
      refine lv_istore (lv' := [(4, .int 1), (3, .ref q13), (0, .ref o), (1, .int w), (2, .int x)]) hx hb dX7_shelf_55 hl (by decide) rfl (fun ls hl => ?_)
      have lp21 : ∀ (n : Nat) (i : Nat) (gp : Nat → Int64) (fL : zM) (H : Heap) (locs : List Loc) (ls : Array Slot), (1 + t - i) < n → (i ≤ 1 + t) → fL q13 = some (.inl (cy 1, (1 + t), .inr (.inl gp))) → (∀ (b : Nat) (e : va_E), f18 b = some e → b ≠ q13 → fL b = some e) → zH D (zA f s.heap.size) fL H → va_S (zA f s.heap.size) s.heap H locs → lv_has ls 5 [(0, .ref o), (1, .int w), (3, .ref q13), (4, .int (nI i))] → W p l e rmX7_shelf s m ([.ref o, .int w, .int x] : List Value).toArray below meth c H locs 1 13 (MQ below (va_Qi (fun (r : Int32) (f1 : zM) => r = (if x ≤ 12 then (if 0 ≤ x then 0 else (-4)) else (-2)) ∧ (∀ (b : Nat) (e : va_E), f b = some e → b ≠ fa → b ≠ fi → b ≠ al → b ≠ ra → b ≠ ev → f1 b = some e)) (zB D f s.heap.size) (zA f s.heap.size)) ([.ref o, .int w, .int x] : List Value).toArray s rmX7_shelf.cells rmX7_shelf.slots (zA f s.heap.size)) (F0 m 57 ls []) := by
        intro n
        induction n with
        | zero => intro i gp fL H locs ls hm; exact absurd hm (Nat.not_lt_zero _)
        | succ n ih =>
          intro i gp fL H locs ls hm hi a23 k22 hz hS hl
          refine lv_iload hx hb dX7_shelf_57 (lv_at hl 3 rfl) ?_
          refine lv_aload_n hx hb dX7_shelf_59 rfl (lv_at hl 2 rfl) ?_
          refine z_alen (v := nI (1 + t)) 1 C hz a23 rfl rfl dX7_shelf_60 ?_
          refine lv_icmp_ge (tgt := 77) hx hb dX7_shelf_61 (by decide) (fun c24 => ?_) (fun c24 => ?_)
          · replace c24 : ((1 + t) ≤ i) := (nI_leI (a := (1 + t)) (b := i) (by omega) (by omega)).mp c24
            refine z_new (fs := [.int 0, .null, .long 0, .int 0, .int 0, .int 0, .int 0]) C hz hS hA zl4 mLX7_83 mIa_RX4 mIn_RX4 (by decide +kernel) (Nat.le_of_ble_eq_true rfl) (Nat.le_of_ble_eq_true rfl) dX7_shelf_77 (fun q25 H f27 u26 a28 k29 hz hS => ?_)
            refine lv_dup hx hb dX7_shelf_80 rfl ?_
            refine lv_bipush (v := 6) hx hb dX7_shelf_81 (by decide) ?_
            refine lv_aload_n hx hb dX7_shelf_83 rfl (lv_at hl 2 rfl) ?_
            refine lv_lconst (v := 0) hx hb dX7_shelf_84 (by decide) ?_
            refine z_callIv (ret := none) (As := [.int 6, .ref q13, .long 0]) C hz hS hA hl (k_X4_init l D cy f27 q25 6 q13 0 a28 ) zyX4_init mMX7_89 rfl rfl (Nat.le_of_ble_eq_true rfl) ⟨Nat.le_of_ble_eq_true rfl, Nat.le_of_ble_eq_true rfl⟩ ⟨Nat.le_of_ble_eq_true rfl, Nat.le_of_ble_eq_true rfl⟩ dX7_shelf_85 (fun  f30 H locs h31 hz hS => ?_)
            obtain ⟨a32, k33⟩ := h31
            refine lv_astore (lv' := [(4, .ref q25), (0, .ref o), (1, .int w), (3, .ref q13)]) hx hb dX7_shelf_88 hl (by decide) rfl (fun ls hl => ?_)
            refine lv_aload hx hb dX7_shelf_90 (lv_at hl 0 rfl) ?_
            refine lv_iload_n hx hb dX7_shelf_92 rfl (lv_at hl 2 rfl) ?_
            refine z_putN (fs' := [.int 6, .ref q13, .long 0, .int w, .int (-1), .int 0, .int 0]) C hz hS a32 zl4 mFNX7_126 (by decide) rfl (by rcases hw with rfl | rfl <;> rfl) (by rcases hw with rfl | rfl <;> rfl) (Nat.le_of_ble_eq_true rfl) rfl dX7_shelf_93 (fun H locs f34 a35 k36 hz hS => ?_)
            refine lv_aload_n hx hb dX7_shelf_96 rfl (lv_at hl 1 rfl) ?_
            have a37 : f8 o = some (.inr (7, [.ref fa, .ref fi, .ref nu, .int 0, .ref fm, .int 0, .ref co, .int 0, .ref en, .ref ke, .long 1])) := k10 _ _ a6 
            have a38 : f15 o = some (.inr (7, [.ref fa, .ref fi, .ref nu, .int 0, .ref fm, .int 0, .ref co, .int 0, .ref en, .ref ke, .long 1])) := (k17 _ (z_nn u14 a37)).trans a37
            have a39 : f18 o = some (.inr (7, [.ref fa, .ref fi, .ref nu, .int 0, .ref fm, .int 0, .ref co, .int 0, .ref en, .ref ke, .long 1])) := (k20 _ (z_nn u14 a37)).trans a38
            have a40 : fL o = some (.inr (7, [.ref fa, .ref fi, .ref nu, .int 0, .ref fm, .int 0, .ref co, .int 0, .ref en, .ref ke, .long 1])) := k22 _ _ a39 (z_nn u14 a37)
            have a41 : f27 o = some (.inr (7, [.ref fa, .ref fi, .ref nu, .int 0, .ref fm, .int 0, .ref co, .int 0, .ref en, .ref ke, .long 1])) := (k29 _ (z_nn u26 a40)).trans a40
            have a42 : f30 o = some (.inr (7, [.ref fa, .ref fi, .ref nu, .int 0, .ref fm, .int 0, .ref co, .int 0, .ref en, .ref ke, .long 1])) := k33 _ _ a41 (z_nn u26 a40)
            have a43 : f34 o = some (.inr (7, [.ref fa, .ref fi, .ref nu, .int 0, .ref fm, .int 0, .ref co, .int 0, .ref en, .ref ke, .long 1])) := (k36 _ (z_nn u26 a40)).trans a42
            refine z_get (v := .ref fi) C hz a43 zl7 mFX7_19 (by decide) rfl dX7_shelf_97 ?_
            refine lv_aload hx hb dX7_shelf_100 (lv_at hl 0 rfl) ?_
            have a44 : f8 fi = some (.inr (5, [.ref al, .ref ra, .int 0])) := k10 _ _ a7 
            have a45 : f15 fi = some (.inr (5, [.ref al, .ref ra, .int 0])) := (k17 _ (z_nn u14 a44)).trans a44
            have a46 : f18 fi = some (.inr (5, [.ref al, .ref ra, .int 0])) := (k20 _ (z_nn u14 a44)).trans a45
            have a47 : fL fi = some (.inr (5, [.ref al, .ref ra, .int 0])) := k22 _ _ a46 (z_nn u14 a44)
            have a48 : f27 fi = some (.inr (5, [.ref al, .ref ra, .int 0])) := (k29 _ (z_nn u26 a47)).trans a47
            have a49 : f30 fi = some (.inr (5, [.ref al, .ref ra, .int 0])) := k33 _ _ a48 (z_nn u26 a47)
            have a50 : f34 fi = some (.inr (5, [.ref al, .ref ra, .int 0])) := (k36 _ (z_nn u26 a47)).trans a49
            have a51 : f1 al = some (.inl (cy 3, 60, .inr (.inr (.inr (.inr ga))))) := k4 _ _ p3 (z_ne p3 p1 rfl)
            have a52 : f8 al = some (.inl (cy 3, 60, .inr (.inr (.inr (.inr ga))))) := k10 _ _ a51 
            have a53 : f15 al = some (.inl (cy 3, 60, .inr (.inr (.inr (.inr ga))))) := (k17 _ (z_nn u14 a52)).trans a52
            have a54 : f18 al = some (.inl (cy 3, 60, .inr (.inr (.inr (.inr ga))))) := (k20 _ (z_nn u14 a52)).trans a53
            have a55 : fL al = some (.inl (cy 3, 60, .inr (.inr (.inr (.inr ga))))) := k22 _ _ a54 (z_nn u14 a52)
            have a56 : f27 al = some (.inl (cy 3, 60, .inr (.inr (.inr (.inr ga))))) := (k29 _ (z_nn u26 a55)).trans a55
            have a57 : f30 al = some (.inl (cy 3, 60, .inr (.inr (.inr (.inr ga))))) := k33 _ _ a56 (z_nn u26 a55)
            have a58 : f34 al = some (.inl (cy 3, 60, .inr (.inr (.inr (.inr ga))))) := (k36 _ (z_nn u26 a55)).trans a57
            have a59 : f1 ra = some (.inl (cy 3, 60, .inr (.inr (.inr (.inr gr))))) := k4 _ _ p4 (z_ne p4 p1 rfl)
            have a60 : f8 ra = some (.inl (cy 3, 60, .inr (.inr (.inr (.inr gr))))) := k10 _ _ a59 
            have a61 : f15 ra = some (.inl (cy 3, 60, .inr (.inr (.inr (.inr gr))))) := (k17 _ (z_nn u14 a60)).trans a60
            have a62 : f18 ra = some (.inl (cy 3, 60, .inr (.inr (.inr (.inr gr))))) := (k20 _ (z_nn u14 a60)).trans a61
            have a63 : fL ra = some (.inl (cy 3, 60, .inr (.inr (.inr (.inr gr))))) := k22 _ _ a62 (z_nn u14 a60)
            have a64 : f27 ra = some (.inl (cy 3, 60, .inr (.inr (.inr (.inr gr))))) := (k29 _ (z_nn u26 a63)).trans a63
            have a65 : f30 ra = some (.inl (cy 3, 60, .inr (.inr (.inr (.inr gr))))) := k33 _ _ a64 (z_nn u26 a63)
            have a66 : f34 ra = some (.inl (cy 3, 60, .inr (.inr (.inr (.inr gr))))) := (k36 _ (z_nn u26 a63)).trans a65
            have a67 : f27 q13 = some (.inl (cy 1, (1 + t), .inr (.inl gp))) := (k29 _ (z_nn u26 a23)).trans a23
            have a68 : f30 q13 = some (.inl (cy 1, (1 + t), .inr (.inl gp))) := k33 _ _ a67 (z_nn u26 a23)
            have a69 : f34 q13 = some (.inl (cy 1, (1 + t), .inr (.inl gp))) := (k36 _ (z_nn u26 a23)).trans a68
            refine z_callVi (As := [.ref q25]) C hz hS hA hl (k_X5_add l D cy f34 fi al ra ga gr q25 6 q13 0 w (-1) 0 0 (1 + t) gp a50 a58 a66 a35 a69 (by decide) (by omega) har) zyX5_add mMX7_92 a50 zl5 rfl rfl (Nat.le_of_ble_eq_true rfl) ⟨Nat.le_of_ble_eq_true rfl, Nat.le_of_ble_eq_true rfl⟩ ⟨Nat.le_of_ble_eq_true rfl, Nat.le_of_ble_eq_true rfl⟩ dX7_shelf_102 (fun r f70 H locs h71 hz hS => ?_)
            obtain ⟨rfl, k72⟩ := h71
            exact z_iret C hr rfl hz hS ⟨(by simp [c5, c11, c12, c24]), (by
                  intro b e hb n0 n1 n2 n3 n4
                  have hb0 : f1 b = some e := k4 b e hb n0
                  have hb1 : f8 b = some e := k10 b e hb0 
                  have nn2 : b ≠ q13 := z_nn u14 hb1
                  have hb2 : f15 b = some e := (k17 b nn2).trans hb1
                  have hb3 : f18 b = some e := (k20 b nn2).trans hb2
                  have hb4 : fL b = some e := k22 b e hb3 nn2
                  have nn5 : b ≠ q25 := z_nn u26 hb4
                  have hb5 : f27 b = some e := (k29 b nn5).trans hb4
                  have hb6 : f30 b = some e := k33 b e hb5 nn5
                  have hb7 : f34 b = some e := (k36 b nn5).trans hb6
                  have hb8 : f70 b = some e := k72 b e hb7 n1 n2 n3 nn5
                  exact hb8)⟩ (Nat.le_of_ble_eq_true rfl) (Nat.le_of_ble_eq_true rfl) dX7_shelf_105
          · replace c24 : ¬ ((1 + t) ≤ i) := fun h => c24 ((nI_leI (a := (1 + t)) (b := i) (by omega) (by omega)).mpr h)
            refine lv_aload_n hx hb dX7_shelf_64 rfl (lv_at hl 2 rfl) ?_
            refine lv_iload hx hb dX7_shelf_65 (lv_at hl 3 rfl) ?_
            refine lv_ldc2 (v := (-1)) hx hb C.2.2.2.1 (C.2.2.2.2.1 _ mKX7_124) dX7_shelf_67 ?_
            refine z_last i C hz hS a23 rfl (by omega) (by omega) dX7_shelf_70 (fun H locs f73 a74 k75 hz hS => ?_)
            refine lv_iinc (v := nI (i + 1)) (lv' := [(4, .int (nI (i + 1))), (0, .ref o), (1, .int w), (3, .ref q13)]) hx hb dX7_shelf_71 hl (k := 3) rfl (nI_1 i) (by decide) rfl (fun ls hl => ?_)
            refine lv_goto (tgt := 57) hx hb dX7_shelf_74 (by decide) ?_
            exact ih (i + 1) (vp_updL gp i (-1)) _ _ _ _ (by omega) (by omega) a74 (by
                  intro b e hb n0
                  have hb4 : fL b = some e := k22 b e hb n0
                  have hb5 : f73 b = some e := (k75 b n0).trans hb4
                  exact hb5) hz hS (lv_sub hl [1, 2, 3, 0] rfl)
      exact lp21 (1 + t - 1 + 1) 1 (vp_updL (fun _ => 0) 0 x.toInt64) _ _ _ _ (Nat.lt_succ_self _) (by omega) a19 (fun b e hb n0 => hb) hz hS (lv_sub hl [2, 3, 1, 0] rfl)
    · refine lv_aload_n hx hb dX7_shelf_33 rfl (lv_at hl 0 rfl) ?_
      have a76 : f8 o = some (.inr (7, [.ref fa, .ref fi, .ref nu, .int 0, .ref fm, .int 0, .ref co, .int 0, .ref en, .ref ke, .long 1])) := k10 _ _ a6 
      refine z_get (v := .ref fa) C hz a76 zl7 mFX7_10 (by decide) rfl dX7_shelf_34 ?_
      refine lv_iconst (v := 5) hx hb dX7_shelf_37 (by decide) ?_
      refine lv_iconst (v := 0) hx hb dX7_shelf_38 (by decide) ?_
      have a77 : f8 fa = some (.inr (2, [.int 0, .int (-1), .int 0, .ref ev])) := k10 _ _ a3 
      have a78 : f1 ev = some (.inl (cy 0, 8, .inl g)) := k4 _ _ p5 (z_ne p5 p1 rfl)
      have a79 : f8 ev = some (.inl (cy 0, 8, .inl g)) := k10 _ _ a78 
      refine z_callVi (As := [.int 5, .int 0]) C hz hS hA hl (k_X2_inPart l D cy f8 fa 5 0 0 (-1) 0 ev g 5 a77 a79 (by decide) (Nat.le_of_ble_eq_true rfl)) zyX2_inPart mMX7_104 a77 zl2 rfl rfl (Nat.le_of_ble_eq_true rfl) ⟨Nat.le_of_ble_eq_true rfl, Nat.le_of_ble_eq_true rfl⟩ ⟨Nat.le_of_ble_eq_true rfl, Nat.le_of_ble_eq_true rfl⟩ dX7_shelf_39 (fun r f80 H locs h81 hz hS => ?_)
      obtain ⟨rfl, a82, a83, k84⟩ := h81
      exact z_iret C hr rfl hz hS ⟨(by simp [c5, c11, c12]), (by
            intro b e hb n0 n1 n2 n3 n4
            have hb0 : f1 b = some e := k4 b e hb n0
            have hb1 : f8 b = some e := k10 b e hb0 
            have hb2 : f80 b = some e := k84 b e hb1 n0 n4
            exact hb2)⟩ (Nat.le_of_ble_eq_true rfl) (Nat.le_of_ble_eq_true rfl) dX7_shelf_42
  · refine lv_bipush (v := (-2)) hx hb dX7_shelf_13 (by decide) ?_
    exact z_iret C hr rfl hz hS ⟨(by simp [c5]), (by
          intro b e hb n0 n1 n2 n3 n4
          have hb0 : f1 b = some e := k4 b e hb n0
          exact hb0)⟩ (Nat.le_of_ble_eq_true rfl) (Nat.le_of_ble_eq_true rfl) dX7_shelf_15
abbrev rmX7_areKindsOnce : Room := { frames := 0, cells := 0, slots := 0, locals := 0 }
set_option maxHeartbeats 4000000 in
set_option maxRecDepth 100000 in
theorem k_X7_areKindsOnce (l : Launch) (D : va_G) (cy : Nat → ClassId) (f : zM) (ta : Nat) (g : Nat → Int32) (p0 : f ta = some (.inl (cy 0, 4, .inl g)))  : zCi l D cy yX7_areKindsOnce cX7_areKindsOnce 6 (Option.some Jvm.ClassFile.FieldType.boolean) rmX7_areKindsOnce [.ref ta] f (fun (r : Int32) (f1 : zM) => r = (if (zks g 4).isSome = true then 1 else 0) ∧ (∀ (b : Nat) (e : va_E), f b = some e → f1 b = some e)) := by
  intro sz
  refine z_body (by decide +kernel) (Nat.le_of_ble_eq_true rfl) ?_
  intro p e s m below meth c ls C hr hin hsz hz hl
  subst hsz
  have hx := C.1
  have hb := C.2.1
  have hA : ∀ q, s.heap.size ≤ q → zA f s.heap.size q := fun q h => Or.inr h
  have hS : va_S (zA f s.heap.size) s.heap s.heap [] := va_S.rf
  have hl : lv_has ls 6 [(0, .ref ta)] := hl
  refine lv_iconst (v := 0) hx hb dX7_areKindsOnce_0 (by decide) ?_
  refine lv_istore_n (lv' := [(1, .int 0), (0, .ref ta)]) hx hb dX7_areKindsOnce_1 rfl hl (by decide) rfl (fun ls hl => ?_)
  refine lv_aload_n hx hb dX7_areKindsOnce_2 rfl (lv_at hl 1 rfl) ?_
  refine lv_astore_n (lv' := [(2, .ref ta), (1, .int 0), (0, .ref ta)]) hx hb dX7_areKindsOnce_3 rfl hl (by decide) rfl (fun ls hl => ?_)
  refine lv_aload_n hx hb dX7_areKindsOnce_4 rfl (lv_at hl 0 rfl) ?_
  refine z_alen (v := 4) 0 C hz p0 rfl rfl dX7_areKindsOnce_5 ?_
  refine lv_istore_n (lv' := [(3, .int 4), (2, .ref ta), (1, .int 0), (0, .ref ta)]) hx hb dX7_areKindsOnce_6 rfl hl (by decide) rfl (fun ls hl => ?_)
  refine lv_iconst (v := 0) hx hb dX7_areKindsOnce_7 (by decide) ?_
  refine lv_istore (lv' := [(4, .int 0), (3, .int 4), (2, .ref ta), (1, .int 0), (0, .ref ta)]) hx hb dX7_areKindsOnce_8 hl (by decide) rfl (fun ls hl => ?_)
  have lp1 : ∀ (n : Nat) (sn : Int32) (i : Nat) (fL : zM) (H : Heap) (locs : List Loc) (ls : Array Slot), (4 - i) < n → (i ≤ 4) → (zks g i = some sn) → fL ta = some (.inl (cy 0, 4, .inl g)) → (∀ (b : Nat) (e : va_E), f b = some e → fL b = some e) → zH D (zA f s.heap.size) fL H → va_S (zA f s.heap.size) s.heap H locs → lv_has ls 6 [(0, .ref ta), (1, .int sn), (2, .ref ta), (3, .int 4), (4, .int (nI i))] → W p l e rmX7_areKindsOnce s m ([.ref ta] : List Value).toArray below meth c H locs 0 0 (MQ below (va_Qi (fun (r : Int32) (f1 : zM) => r = (if (zks g 4).isSome = true then 1 else 0) ∧ (∀ (b : Nat) (e : va_E), f b = some e → f1 b = some e)) (zB D f s.heap.size) (zA f s.heap.size)) ([.ref ta] : List Value).toArray s rmX7_areKindsOnce.cells rmX7_areKindsOnce.slots (zA f s.heap.size)) (F0 m 10 ls []) := by
    intro n
    induction n with
    | zero => intro sn i fL H locs ls hm; exact absurd hm (Nat.not_lt_zero _)
    | succ n ih =>
      intro sn i fL H locs ls hm hi hs a3 k2 hz hS hl
      refine lv_iload hx hb dX7_areKindsOnce_10 (lv_at hl 4 rfl) ?_
      refine lv_iload_n hx hb dX7_areKindsOnce_12 rfl (lv_at hl 3 rfl) ?_
      refine lv_icmp_ge (tgt := 67) hx hb dX7_areKindsOnce_13 (by decide) (fun c4 => ?_) (fun c4 => ?_)
      · replace c4 : (4 ≤ i) := (nI_leI (a := 4) (b := i) (by omega) (by omega)).mp c4
        refine lv_iconst (v := 1) hx hb dX7_areKindsOnce_67 (by decide) ?_
        exact z_iret C hr (by decide) hz hS ⟨(by rw [if_pos (by rw [show (4 : Nat) = i by omega, hs]; rfl)]), (by
              intro b e hb 
              have hb0 : fL b = some e := k2 b e hb 
              exact hb0)⟩ (Nat.le_of_ble_eq_true rfl) (Nat.le_of_ble_eq_true rfl) dX7_areKindsOnce_68
      · replace c4 : ¬ (4 ≤ i) := fun h => c4 ((nI_leI (a := 4) (b := i) (by omega) (by omega)).mpr h)
        refine lv_aload_n hx hb dX7_areKindsOnce_16 rfl (lv_at hl 2 rfl) ?_
        refine lv_iload hx hb dX7_areKindsOnce_17 (lv_at hl 4 rfl) ?_
        refine z_iald i C hz a3 rfl (by omega) (by omega) dX7_areKindsOnce_19 ?_
        refine lv_istore (lv' := [(5, .int (g i)), (0, .ref ta), (1, .int sn), (2, .ref ta), (3, .int 4), (4, .int (nI i))]) hx hb dX7_areKindsOnce_20 hl (by decide) rfl (fun ls hl => ?_)
        refine lv_iload hx hb dX7_areKindsOnce_22 (lv_at hl 0 rfl) ?_
        refine lv_iconst (v := (-1)) hx hb dX7_areKindsOnce_24 (by decide) ?_
        refine lv_icmp_ne (tgt := 31) hx hb dX7_areKindsOnce_25 (by decide) (fun c5 => ?_) (fun c5 => ?_)
        · refine lv_iload hx hb dX7_areKindsOnce_31 (lv_at hl 0 rfl) ?_
          refine lv_if_lt (tgt := 52) hx hb dX7_areKindsOnce_33 (by decide) (fun c6 => ?_) (fun c6 => ?_)
          · refine lv_iconst (v := 0) hx hb dX7_areKindsOnce_52 (by decide) ?_
            exact z_iret C hr (by decide) hz hS ⟨(by rw [if_neg (zks_none4 (i := i) (by omega) (by simp [zks, hs, c5, c6]))]), (by
                  intro b e hb 
                  have hb0 : fL b = some e := k2 b e hb 
                  exact hb0)⟩ (Nat.le_of_ble_eq_true rfl) (Nat.le_of_ble_eq_true rfl) dX7_areKindsOnce_53
          · refine lv_iload hx hb dX7_areKindsOnce_36 (lv_at hl 0 rfl) ?_
            refine lv_bipush (v := 6) hx hb dX7_areKindsOnce_38 (by decide) ?_
            refine lv_icmp_gt (tgt := 52) hx hb dX7_areKindsOnce_40 (by decide) (fun c7 => ?_) (fun c7 => ?_)
            · refine lv_iconst (v := 0) hx hb dX7_areKindsOnce_52 (by decide) ?_
              exact z_iret C hr (by decide) hz hS ⟨(by rw [if_neg (zks_none4 (i := i) (by omega) (by simp [zks, hs, c5, c6, c7]))]), (by
                    intro b e hb 
                    have hb0 : fL b = some e := k2 b e hb 
                    exact hb0)⟩ (Nat.le_of_ble_eq_true rfl) (Nat.le_of_ble_eq_true rfl) dX7_areKindsOnce_53
            · refine lv_iload_n hx hb dX7_areKindsOnce_43 rfl (lv_at hl 2 rfl) ?_
              refine lv_iload hx hb dX7_areKindsOnce_44 (lv_at hl 0 rfl) ?_
              refine lv_ishr hx hb dX7_areKindsOnce_46 ?_
              refine lv_iconst (v := 1) hx hb dX7_areKindsOnce_47 (by decide) ?_
              refine lv_iand hx hb dX7_areKindsOnce_48 ?_
              refine lv_if_eq (tgt := 54) hx hb dX7_areKindsOnce_49 (by decide) (fun c8 => ?_) (fun c8 => ?_)
              · refine lv_iload_n hx hb dX7_areKindsOnce_54 rfl (lv_at hl 2 rfl) ?_
                refine lv_iconst (v := 1) hx hb dX7_areKindsOnce_55 (by decide) ?_
                refine lv_iload hx hb dX7_areKindsOnce_56 (lv_at hl 0 rfl) ?_
                refine lv_ishl hx hb dX7_areKindsOnce_58 ?_
                refine lv_ior hx hb dX7_areKindsOnce_59 ?_
                refine lv_istore_n (lv' := [(1, .int (sn ||| (1 <<< ((g i) &&& 31)))), (5, .int (g i)), (0, .ref ta), (2, .ref ta), (3, .int 4), (4, .int (nI i))]) hx hb dX7_areKindsOnce_60 rfl hl (by decide) rfl (fun ls hl => ?_)
                refine lv_iinc (v := nI (i + 1)) (lv' := [(4, .int (nI (i + 1))), (1, .int (sn ||| (1 <<< ((g i) &&& 31)))), (5, .int (g i)), (0, .ref ta), (2, .ref ta), (3, .int 4)]) hx hb dX7_areKindsOnce_61 hl (k := 5) rfl (nI_1 i) (by decide) rfl (fun ls hl => ?_)
                refine lv_goto (tgt := 10) hx hb dX7_areKindsOnce_64 (by decide) ?_
                exact ih (sn ||| (1 <<< ((g i) &&& 31))) (i + 1) _ _ _ _ (by omega) (by omega) (by simp [zks, hs, c5, c6, c7, c8]) a3 (by
                      intro b e hb 
                      have hb0 : fL b = some e := k2 b e hb 
                      exact hb0) hz hS (lv_sub hl [3, 1, 4, 5, 0] rfl)
              · refine lv_iconst (v := 0) hx hb dX7_areKindsOnce_52 (by decide) ?_
                exact z_iret C hr (by decide) hz hS ⟨(by rw [if_neg (zks_none4 (i := i) (by omega) (by simp [zks, hs, c5, c6, c7, c8]))]), (by
                      intro b e hb 
                      have hb0 : fL b = some e := k2 b e hb 
                      exact hb0)⟩ (Nat.le_of_ble_eq_true rfl) (Nat.le_of_ble_eq_true rfl) dX7_areKindsOnce_53
        · refine lv_goto (tgt := 61) hx hb dX7_areKindsOnce_28 (by decide) ?_
          refine lv_iinc (v := nI (i + 1)) (lv' := [(4, .int (nI (i + 1))), (5, .int (g i)), (0, .ref ta), (1, .int sn), (2, .ref ta), (3, .int 4)]) hx hb dX7_areKindsOnce_61 hl (k := 5) rfl (nI_1 i) (by decide) rfl (fun ls hl => ?_)
          refine lv_goto (tgt := 10) hx hb dX7_areKindsOnce_64 (by decide) ?_
          exact ih sn (i + 1) _ _ _ _ (by omega) (by omega) (by simp [zks, hs, c5]) a3 (by
                intro b e hb 
                have hb0 : fL b = some e := k2 b e hb 
                exact hb0) hz hS (lv_sub hl [2, 3, 4, 5, 0] rfl)
  exact lp1 (4 - 0 + 1) 0 0 _ _ _ _ (Nat.lt_succ_self _) (by omega) rfl p0 (fun b e hb => hb) hz hS (lv_sub hl [4, 3, 2, 1, 0] rfl)
abbrev rmX3_init : Room := { frames := 1, cells := 1, slots := 4, locals := 12 }
set_option maxHeartbeats 4000000 in
set_option maxRecDepth 100000 in
theorem k_X3_init (l : Launch) (D : va_G) (cy : Nat → ClassId) (f : zM) (h : Nat) (ta : Nat) (g : Nat → Int32) (p0 : f h = some (.inr (3, [.null, .int 0]))) (p1 : f ta = some (.inl (cy 0, 4, .inl g)))  : zCv l D cy yX3_init cX3_init 3 none rmX3_init [.ref h, .ref ta] f (fun (f1 : zM) => (∀ (b : Nat) (e : va_E), f b = some e → b ≠ h → f1 b = some e)) := by
  intro sz
  refine z_body (by decide +kernel) (Nat.le_of_ble_eq_true rfl) ?_
  intro p e s m below meth c ls C hr hin hsz hz hl
  subst hsz
  have hx := C.1
  have hb := C.2.1
  have hA : ∀ q, s.heap.size ≤ q → zA f s.heap.size q := fun q h => Or.inr h
  have hS : va_S (zA f s.heap.size) s.heap s.heap [] := va_S.rf
  have hl : lv_has ls 3 [(0, .ref h), (1, .ref ta)] := hl
  refine lv_aload_n hx hb dX3_init_0 rfl (lv_at hl 0 rfl) ?_
  refine z_objI C hl mMX3_3 (Nat.le_of_ble_eq_true rfl) (Nat.le_of_ble_eq_true rfl) dX3_init_1 ?_
  refine lv_aload_n hx hb dX3_init_4 rfl (lv_at hl 0 rfl) ?_
  refine lv_iconst (v := 4) hx hb dX3_init_5 (by decide) ?_
  refine z_newa (atype := .int) (t0 := 0) (N' := 4) (x := (.inl (fun _ => 0))) C hz hS hA rfl mA_int rfl (fun _ => rfl) (by decide) (Nat.le_of_ble_eq_true rfl) (by decide) (Nat.le_of_ble_eq_true rfl) (Nat.le_of_ble_eq_true rfl) dX3_init_6 (fun q1 H f3 u2 a4 k5 hz hS => ?_)
  have a6 : f3 h = some (.inr (3, [.null, .int 0])) := (k5 _ (z_nn u2 p0)).trans p0
  refine z_putF (fs' := [.ref q1, .int 0]) C hz hS a6 zl3 mFX3_11 (by decide) rfl hin rfl rfl rfl (Nat.le_of_ble_eq_true rfl) rfl dX3_init_8 (fun H locs f7 a8 k9 hz hS => ?_)
  refine lv_aload_n hx hb dX3_init_11 rfl (lv_at hl 0 rfl) ?_
  refine lv_iconst (v := 0) hx hb dX3_init_12 (by decide) ?_
  refine z_put (fs' := [.ref q1, .int 0]) C hz hS a8 zl3 mFX3_15 (by decide) rfl rfl rfl (Nat.le_of_ble_eq_true rfl) rfl dX3_init_13 (fun H locs f10 a11 k12 hz hS => ?_)
  refine lv_iconst (v := 0) hx hb dX3_init_16 (by decide) ?_
  refine lv_istore_n (lv' := [(2, .int 0), (0, .ref h), (1, .ref ta)]) hx hb dX3_init_17 rfl hl (by decide) rfl (fun ls hl => ?_)
  have lp13 : ∀ (n : Nat) (i : Nat) (z : Nat) (gz : Nat → Int32) (fL : zM) (H : Heap) (locs : List Loc) (ls : Array Slot), (4 - i) < n → (i ≤ 4) → (z ≤ 4) → fL h = some (.inr (3, [.ref q1, .int (nI z)])) → fL ta = some (.inl (cy 0, 4, .inl g)) → fL q1 = some (.inl (cy 0, 4, .inl gz)) → (∀ (b : Nat) (e : va_E), f10 b = some e → b ≠ h → b ≠ q1 → fL b = some e) → zH D (zA f s.heap.size) fL H → va_S (zA f s.heap.size) s.heap H locs → lv_has ls 3 [(0, .ref h), (1, .ref ta), (2, .int (nI i))] → W p l e rmX3_init s m ([.ref h, .ref ta] : List Value).toArray below meth c H locs 1 4 (MQ below (va_Qv (fun (f1 : zM) => (∀ (b : Nat) (e : va_E), f b = some e → b ≠ h → f1 b = some e)) (zB D f s.heap.size) (zA f s.heap.size)) ([.ref h, .ref ta] : List Value).toArray s rmX3_init.cells rmX3_init.slots (zA f s.heap.size)) (F0 m 18 ls []) := by
    intro n
    induction n with
    | zero => intro i z gz fL H locs ls hm; exact absurd hm (Nat.not_lt_zero _)
    | succ n ih =>
      intro i z gz fL H locs ls hm hi hz4 a15 a16 a17 k14 hz hS hl
      refine lv_iload_n hx hb dX3_init_18 rfl (lv_at hl 2 rfl) ?_
      refine lv_aload_n hx hb dX3_init_19 rfl (lv_at hl 1 rfl) ?_
      refine z_alen (v := 4) 0 C hz a16 rfl rfl dX3_init_20 ?_
      refine lv_icmp_ge (tgt := 67) hx hb dX3_init_21 (by decide) (fun c18 => ?_) (fun c18 => ?_)
      · replace c18 : (4 ≤ i) := (nI_leI (a := 4) (b := i) (by omega) (by omega)).mp c18
        exact z_vret C hr hz hS (by
              intro b e hb n0
              have nn0 : b ≠ q1 := z_nn u2 hb
              have hb0 : f3 b = some e := (k5 b nn0).trans hb
              have hb1 : f7 b = some e := (k9 b n0).trans hb0
              have hb2 : f10 b = some e := (k12 b n0).trans hb1
              have hb3 : fL b = some e := k14 b e hb2 n0 nn0
              exact hb3) (Nat.le_of_ble_eq_true rfl) (Nat.le_of_ble_eq_true rfl) dX3_init_67
      · replace c18 : ¬ (4 ≤ i) := fun h => c18 ((nI_leI (a := 4) (b := i) (by omega) (by omega)).mpr h)
        refine lv_aload_n hx hb dX3_init_24 rfl (lv_at hl 0 rfl) ?_
        refine z_get (v := .int (nI z)) C hz a15 zl3 mFX3_15 (by decide) rfl dX3_init_25 ?_
        refine lv_iconst (v := 4) hx hb dX3_init_28 (by decide) ?_
        refine lv_icmp_ge (tgt := 67) hx hb dX3_init_29 (by decide) (fun c19 => ?_) (fun c19 => ?_)
        · replace c19 : (4 ≤ z) := (nI_leI (a := 4) (b := z) (by omega) (by omega)).mp c19
          exact z_vret C hr hz hS (by
                intro b e hb n0
                have nn0 : b ≠ q1 := z_nn u2 hb
                have hb0 : f3 b = some e := (k5 b nn0).trans hb
                have hb1 : f7 b = some e := (k9 b n0).trans hb0
                have hb2 : f10 b = some e := (k12 b n0).trans hb1
                have hb3 : fL b = some e := k14 b e hb2 n0 nn0
                exact hb3) (Nat.le_of_ble_eq_true rfl) (Nat.le_of_ble_eq_true rfl) dX3_init_67
        · replace c19 : ¬ (4 ≤ z) := fun h => c19 ((nI_leI (a := 4) (b := z) (by omega) (by omega)).mpr h)
          refine lv_aload_n hx hb dX3_init_32 rfl (lv_at hl 1 rfl) ?_
          refine lv_iload_n hx hb dX3_init_33 rfl (lv_at hl 2 rfl) ?_
          refine z_iald i C hz a16 rfl (by omega) (by omega) dX3_init_34 ?_
          refine lv_iconst (v := (-1)) hx hb dX3_init_35 (by decide) ?_
          refine lv_icmp_eq (tgt := 61) hx hb dX3_init_36 (by decide) (fun c20 => ?_) (fun c20 => ?_)
          · refine lv_iinc (v := nI (i + 1)) (lv' := [(2, .int (nI (i + 1))), (0, .ref h), (1, .ref ta)]) hx hb dX3_init_61 hl (k := 2) rfl (nI_1 i) (by decide) rfl (fun ls hl => ?_)
            refine lv_goto (tgt := 18) hx hb dX3_init_64 (by decide) ?_
            exact ih (i + 1) z gz _ _ _ _ (by omega) (by omega) (by omega) a15 a16 a17 (by
                  intro b e hb n0 n1
                  have hb3 : fL b = some e := k14 b e hb n0 n1
                  exact hb3) hz hS (lv_sub hl [1, 2, 0] rfl)
          · refine lv_aload_n hx hb dX3_init_39 rfl (lv_at hl 0 rfl) ?_
            refine z_get (v := .ref q1) C hz a15 zl3 mFX3_11 (by decide) rfl dX3_init_40 ?_
            refine lv_aload_n hx hb dX3_init_43 rfl (lv_at hl 0 rfl) ?_
            refine z_get (v := .int (nI z)) C hz a15 zl3 mFX3_15 (by decide) rfl dX3_init_44 ?_
            refine lv_aload_n hx hb dX3_init_47 rfl (lv_at hl 1 rfl) ?_
            refine lv_iload_n hx hb dX3_init_48 rfl (lv_at hl 2 rfl) ?_
            refine z_iald i C hz a16 rfl (by omega) (by omega) dX3_init_49 ?_
            refine z_iast z C hz hS a17 rfl (by omega) (by omega) dX3_init_50 (fun H locs f21 a22 k23 hz hS => ?_)
            refine lv_aload_n hx hb dX3_init_51 rfl (lv_at hl 0 rfl) ?_
            refine lv_dup hx hb dX3_init_52 rfl ?_
            have a24 : f21 h = some (.inr (3, [.ref q1, .int (nI z)])) := (k23 _ (z_nn u2 p0)).trans a15
            refine z_get (v := .int (nI z)) C hz a24 zl3 mFX3_15 (by decide) rfl dX3_init_53 ?_
            refine lv_iconst (v := 1) hx hb dX3_init_56 (by decide) ?_
            refine lv_iadd hx hb dX3_init_57 ?_
            refine lv_topi (fun y25 e26 => ?_)
            obtain rfl : y25 = nI (z + 1) := e26.trans (nI_1 z)
            refine z_put (fs' := [.ref q1, .int (nI (z + 1))]) C hz hS a24 zl3 mFX3_15 (by decide) rfl rfl rfl (Nat.le_of_ble_eq_true rfl) rfl dX3_init_58 (fun H locs f27 a28 k29 hz hS => ?_)
            refine lv_iinc (v := nI (i + 1)) (lv' := [(2, .int (nI (i + 1))), (0, .ref h), (1, .ref ta)]) hx hb dX3_init_61 hl (k := 2) rfl (nI_1 i) (by decide) rfl (fun ls hl => ?_)
            refine lv_goto (tgt := 18) hx hb dX3_init_64 (by decide) ?_
            have a30 : f27 q1 = some (.inl (cy 0, 4, .inl (upd gz z (g i)))) := (k29 _ (Ne.symm (z_nn u2 p0))).trans a22
            have a31 : f21 ta = some (.inl (cy 0, 4, .inl g)) := (k23 _ (z_nn u2 p1)).trans a16
            have a32 : f27 ta = some (.inl (cy 0, 4, .inl g)) := (k29 _ (z_ne a31 a24 rfl)).trans a31
            exact ih (i + 1) (z + 1) (upd gz z (g i)) _ _ _ _ (by omega) (by omega) (by omega) a28 a32 a30 (by
                  intro b e hb n0 n1
                  have hb3 : fL b = some e := k14 b e hb n0 n1
                  have hb4 : f21 b = some e := (k23 b n1).trans hb3
                  have hb5 : f27 b = some e := (k29 b n0).trans hb4
                  exact hb5) hz hS (lv_sub hl [1, 2, 0] rfl)
  have a33 : f7 q1 = some (.inl (cy 0, 4, .inl (fun _ => 0))) := (k9 _ (Ne.symm (z_nn u2 p0))).trans a4
  have a34 : f10 q1 = some (.inl (cy 0, 4, .inl (fun _ => 0))) := (k12 _ (Ne.symm (z_nn u2 p0))).trans a33
  have a35 : f3 ta = some (.inl (cy 0, 4, .inl g)) := (k5 _ (z_nn u2 p1)).trans p1
  have a36 : f7 ta = some (.inl (cy 0, 4, .inl g)) := (k9 _ (z_ne a35 a6 rfl)).trans a35
  have a37 : f10 ta = some (.inl (cy 0, 4, .inl g)) := (k12 _ (z_ne a36 a8 rfl)).trans a36
  exact lp13 (4 - 0 + 1) 0 0 (fun _ => 0) _ _ _ _ (Nat.lt_succ_self _) (by omega) (by omega) a11 a37 a34 (fun b e hb n0 n1 => hb) hz hS (lv_sub hl [1, 2, 0] rfl)
end
