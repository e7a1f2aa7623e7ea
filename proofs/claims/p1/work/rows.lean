section
-- ===== PART A: goes FIRST, ahead of the names: the tables' words, and 'selects' of the private methods out of them =====
/-- a private method of a class that the tables say can be made, by its rows of tables_1 -/
def lw_okq (q : MethodName × Nat) : Prop := (q.1.cls ≠ "java/lang/invoke/MethodHandle" ∧ q.1.cls ≠ "java/lang/invoke/VarHandle") ∧ Cond.instantiable q.1.cls q.2 ∈ tables_1 ∧ Cond.privateMethod q.1 ∈ tables_1 ∧ Cond.instanceMethod q.1 ∈ tables_1
theorem lw_p0 : lw_okq (⟨"KindRows$Figures", "hashOf", "(LKindRows$Figure;)I"⟩, 3) := ⟨⟨by decide +kernel, by decide +kernel⟩, List.mem_of_getElem? (i := 45) (by decide +kernel), List.mem_of_getElem? (i := 211) (by decide +kernel), List.mem_of_getElem? (i := 212) (by decide +kernel)⟩
theorem lw_p1 : lw_okq (⟨"KindRows$Figures", "hashOfNumbered", "(J)I"⟩, 3) := ⟨⟨by decide +kernel, by decide +kernel⟩, List.mem_of_getElem? (i := 45) (by decide +kernel), List.mem_of_getElem? (i := 215) (by decide +kernel), List.mem_of_getElem? (i := 216) (by decide +kernel)⟩
theorem lw_p2 : lw_okq (⟨"KindRows$Figures", "rank", "(LKindRows$Figure;)V"⟩, 3) := ⟨⟨by decide +kernel, by decide +kernel⟩, List.mem_of_getElem? (i := 45) (by decide +kernel), List.mem_of_getElem? (i := 223) (by decide +kernel), List.mem_of_getElem? (i := 224) (by decide +kernel)⟩
theorem lw_p3 : lw_okq (⟨"KindRows$Figures", "compare", "(LKindRows$Figure;LKindRows$Figure;)I"⟩, 3) := ⟨⟨by decide +kernel, by decide +kernel⟩, List.mem_of_getElem? (i := 45) (by decide +kernel), List.mem_of_getElem? (i := 227) (by decide +kernel), List.mem_of_getElem? (i := 228) (by decide +kernel)⟩
theorem lw_p4 : lw_okq (⟨"KindRows$Figures", "compareFrom", "(ILKindRows$Figure;LKindRows$Figure;)I"⟩, 3) := ⟨⟨by decide +kernel, by decide +kernel⟩, List.mem_of_getElem? (i := 45) (by decide +kernel), List.mem_of_getElem? (i := 234) (by decide +kernel), List.mem_of_getElem? (i := 235) (by decide +kernel)⟩
theorem lw_p5 : lw_okq (⟨"KindRows$Figures", "sortKey", "(IJ)J"⟩, 3) := ⟨⟨by decide +kernel, by decide +kernel⟩, List.mem_of_getElem? (i := 45) (by decide +kernel), List.mem_of_getElem? (i := 241) (by decide +kernel), List.mem_of_getElem? (i := 242) (by decide +kernel)⟩
theorem lw_p6 : lw_okq (⟨"KindRows", "numberAt", "(I)I"⟩, 11) := ⟨⟨by decide +kernel, by decide +kernel⟩, List.mem_of_getElem? (i := 14) (by decide +kernel), List.mem_of_getElem? (i := 292) (by decide +kernel), List.mem_of_getElem? (i := 293) (by decide +kernel)⟩
theorem lw_p7 : lw_okq (⟨"KindRows", "rowParts", "(III)[J"⟩, 11) := ⟨⟨by decide +kernel, by decide +kernel⟩, List.mem_of_getElem? (i := 14) (by decide +kernel), List.mem_of_getElem? (i := 296) (by decide +kernel), List.mem_of_getElem? (i := 297) (by decide +kernel)⟩
theorem lw_p8 : lw_okq (⟨"KindRows", "findFamily", "(I)LKindRows$Family;"⟩, 11) := ⟨⟨by decide +kernel, by decide +kernel⟩, List.mem_of_getElem? (i := 14) (by decide +kernel), List.mem_of_getElem? (i := 417) (by decide +kernel), List.mem_of_getElem? (i := 418) (by decide +kernel)⟩
theorem lw_p9 : lw_okq (⟨"KindRows", "findEnumeration", "(I)LKindRows$Enumeration;"⟩, 11) := ⟨⟨by decide +kernel, by decide +kernel⟩, List.mem_of_getElem? (i := 14) (by decide +kernel), List.mem_of_getElem? (i := 434) (by decide +kernel), List.mem_of_getElem? (i := 435) (by decide +kernel)⟩
theorem lw_p10 : lw_okq (⟨"KindRows", "memberNamed", "(LKindRows$Enumeration;I)I"⟩, 11) := ⟨⟨by decide +kernel, by decide +kernel⟩, List.mem_of_getElem? (i := 14) (by decide +kernel), List.mem_of_getElem? (i := 438) (by decide +kernel), List.mem_of_getElem? (i := 439) (by decide +kernel)⟩
theorem lw_p11 : lw_okq (⟨"KindRows", "findConstant", "(I)LKindRows$Constant;"⟩, 11) := ⟨⟨by decide +kernel, by decide +kernel⟩, List.mem_of_getElem? (i := 14) (by decide +kernel), List.mem_of_getElem? (i := 442) (by decide +kernel), List.mem_of_getElem? (i := 443) (by decide +kernel)⟩
theorem lw_p12 : lw_okq (⟨"KindRows", "homeOf", "(I)LKindRows$Enumeration;"⟩, 11) := ⟨⟨by decide +kernel, by decide +kernel⟩, List.mem_of_getElem? (i := 14) (by decide +kernel), List.mem_of_getElem? (i := 472) (by decide +kernel), List.mem_of_getElem? (i := 473) (by decide +kernel)⟩
theorem lw_p13 : lw_okq (⟨"KindRows", "drawBelow", "(I)I"⟩, 11) := ⟨⟨by decide +kernel, by decide +kernel⟩, List.mem_of_getElem? (i := 14) (by decide +kernel), List.mem_of_getElem? (i := 488) (by decide +kernel), List.mem_of_getElem? (i := 489) (by decide +kernel)⟩
theorem lw_p14 : lw_okq (⟨"KindRows$Keys", "placeOf", "(I)I"⟩, 3) := ⟨⟨by decide +kernel, by decide +kernel⟩, List.mem_of_getElem? (i := 70) (by decide +kernel), List.mem_of_getElem? (i := 521) (by decide +kernel), List.mem_of_getElem? (i := 522) (by decide +kernel)⟩
theorem lw_p15 : lw_okq (⟨"KindRows", "membersOfAll", "()I"⟩, 11) := ⟨⟨by decide +kernel, by decide +kernel⟩, List.mem_of_getElem? (i := 14) (by decide +kernel), List.mem_of_getElem? (i := 537) (by decide +kernel), List.mem_of_getElem? (i := 538) (by decide +kernel)⟩
def lw_privs_1 : List (MethodName × Nat) := [(⟨"KindRows$Figures", "hashOf", "(LKindRows$Figure;)I"⟩, 3), (⟨"KindRows$Figures", "hashOfNumbered", "(J)I"⟩, 3), (⟨"KindRows$Figures", "rank", "(LKindRows$Figure;)V"⟩, 3), (⟨"KindRows$Figures", "compare", "(LKindRows$Figure;LKindRows$Figure;)I"⟩, 3), (⟨"KindRows$Figures", "compareFrom", "(ILKindRows$Figure;LKindRows$Figure;)I"⟩, 3), (⟨"KindRows$Figures", "sortKey", "(IJ)J"⟩, 3), (⟨"KindRows", "numberAt", "(I)I"⟩, 11), (⟨"KindRows", "rowParts", "(III)[J"⟩, 11), (⟨"KindRows", "findFamily", "(I)LKindRows$Family;"⟩, 11), (⟨"KindRows", "findEnumeration", "(I)LKindRows$Enumeration;"⟩, 11), (⟨"KindRows", "memberNamed", "(LKindRows$Enumeration;I)I"⟩, 11), (⟨"KindRows", "findConstant", "(I)LKindRows$Constant;"⟩, 11), (⟨"KindRows", "homeOf", "(I)LKindRows$Enumeration;"⟩, 11), (⟨"KindRows", "drawBelow", "(I)I"⟩, 11), (⟨"KindRows$Keys", "placeOf", "(I)I"⟩, 3), (⟨"KindRows", "membersOfAll", "()I"⟩, 11)]
theorem lw_r1 : ∀ q ∈ lw_privs_1, lw_okq q := List.forall_mem_cons.mpr ⟨lw_p0, List.forall_mem_cons.mpr ⟨lw_p1, List.forall_mem_cons.mpr ⟨lw_p2, List.forall_mem_cons.mpr ⟨lw_p3, List.forall_mem_cons.mpr ⟨lw_p4, List.forall_mem_cons.mpr ⟨lw_p5, List.forall_mem_cons.mpr ⟨lw_p6, List.forall_mem_cons.mpr ⟨lw_p7, List.forall_mem_cons.mpr ⟨lw_p8, List.forall_mem_cons.mpr ⟨lw_p9, List.forall_mem_cons.mpr ⟨lw_p10, List.forall_mem_cons.mpr ⟨lw_p11, List.forall_mem_cons.mpr ⟨lw_p12, List.forall_mem_cons.mpr ⟨lw_p13, List.forall_mem_cons.mpr ⟨lw_p14, List.forall_mem_cons.mpr ⟨lw_p15, fun _ h => absurd h List.not_mem_nil⟩⟩⟩⟩⟩⟩⟩⟩⟩⟩⟩⟩⟩⟩⟩⟩
theorem lw_p16 : lw_okq (⟨"KindRowsModel", "begin", "()V"⟩, 27) := ⟨⟨by decide +kernel, by decide +kernel⟩, List.mem_of_getElem? (i := 545) (by decide +kernel), List.mem_of_getElem? (i := 650) (by decide +kernel), List.mem_of_getElem? (i := 651) (by decide +kernel)⟩
theorem lw_p17 : lw_okq (⟨"KindRowsModel", "start", "(I)V"⟩, 27) := ⟨⟨by decide +kernel, by decide +kernel⟩, List.mem_of_getElem? (i := 545) (by decide +kernel), List.mem_of_getElem? (i := 654) (by decide +kernel), List.mem_of_getElem? (i := 655) (by decide +kernel)⟩
theorem lw_p18 : lw_okq (⟨"KindRowsModel", "part", "(J)V"⟩, 27) := ⟨⟨by decide +kernel, by decide +kernel⟩, List.mem_of_getElem? (i := 545) (by decide +kernel), List.mem_of_getElem? (i := 664) (by decide +kernel), List.mem_of_getElem? (i := 665) (by decide +kernel)⟩
theorem lw_p19 : lw_okq (⟨"KindRowsModel", "made", "()I"⟩, 27) := ⟨⟨by decide +kernel, by decide +kernel⟩, List.mem_of_getElem? (i := 545) (by decide +kernel), List.mem_of_getElem? (i := 668) (by decide +kernel), List.mem_of_getElem? (i := 669) (by decide +kernel)⟩
theorem lw_p20 : lw_okq (⟨"KindRowsModel", "leastLike", "(I)I"⟩, 27) := ⟨⟨by decide +kernel, by decide +kernel⟩, List.mem_of_getElem? (i := 545) (by decide +kernel), List.mem_of_getElem? (i := 672) (by decide +kernel), List.mem_of_getElem? (i := 673) (by decide +kernel)⟩
theorem lw_p21 : lw_okq (⟨"KindRowsModel", "isFigurePart", "(I)Z"⟩, 27) := ⟨⟨by decide +kernel, by decide +kernel⟩, List.mem_of_getElem? (i := 545) (by decide +kernel), List.mem_of_getElem? (i := 676) (by decide +kernel), List.mem_of_getElem? (i := 677) (by decide +kernel)⟩
theorem lw_p22 : lw_okq (⟨"KindRowsModel", "cellOf", "(II)J"⟩, 27) := ⟨⟨by decide +kernel, by decide +kernel⟩, List.mem_of_getElem? (i := 545) (by decide +kernel), List.mem_of_getElem? (i := 680) (by decide +kernel), List.mem_of_getElem? (i := 681) (by decide +kernel)⟩
theorem lw_p23 : lw_okq (⟨"KindRowsModel", "likeOf", "(J)I"⟩, 27) := ⟨⟨by decide +kernel, by decide +kernel⟩, List.mem_of_getElem? (i := 545) (by decide +kernel), List.mem_of_getElem? (i := 684) (by decide +kernel), List.mem_of_getElem? (i := 685) (by decide +kernel)⟩
theorem lw_p24 : lw_okq (⟨"KindRowsModel", "hashOf", "(I)I"⟩, 27) := ⟨⟨by decide +kernel, by decide +kernel⟩, List.mem_of_getElem? (i := 545) (by decide +kernel), List.mem_of_getElem? (i := 689) (by decide +kernel), List.mem_of_getElem? (i := 690) (by decide +kernel)⟩
theorem lw_p25 : lw_okq (⟨"KindRowsModel", "fails", "(III)I"⟩, 27) := ⟨⟨by decide +kernel, by decide +kernel⟩, List.mem_of_getElem? (i := 545) (by decide +kernel), List.mem_of_getElem? (i := 700) (by decide +kernel), List.mem_of_getElem? (i := 701) (by decide +kernel)⟩
theorem lw_p26 : lw_okq (⟨"KindRowsModel", "isFigure", "(I)Z"⟩, 27) := ⟨⟨by decide +kernel, by decide +kernel⟩, List.mem_of_getElem? (i := 545) (by decide +kernel), List.mem_of_getElem? (i := 716) (by decide +kernel), List.mem_of_getElem? (i := 717) (by decide +kernel)⟩
theorem lw_p27 : lw_okq (⟨"KindRowsModel", "laid", "(I)I"⟩, 27) := ⟨⟨by decide +kernel, by decide +kernel⟩, List.mem_of_getElem? (i := 545) (by decide +kernel), List.mem_of_getElem? (i := 724) (by decide +kernel), List.mem_of_getElem? (i := 725) (by decide +kernel)⟩
theorem lw_p28 : lw_okq (⟨"KindRowsModel", "hasPlace", "(II)Z"⟩, 27) := ⟨⟨by decide +kernel, by decide +kernel⟩, List.mem_of_getElem? (i := 545) (by decide +kernel), List.mem_of_getElem? (i := 736) (by decide +kernel), List.mem_of_getElem? (i := 737) (by decide +kernel)⟩
theorem lw_p29 : lw_okq (⟨"KindRowsModel", "at", "(IIJ)J"⟩, 27) := ⟨⟨by decide +kernel, by decide +kernel⟩, List.mem_of_getElem? (i := 545) (by decide +kernel), List.mem_of_getElem? (i := 757) (by decide +kernel), List.mem_of_getElem? (i := 758) (by decide +kernel)⟩
theorem lw_p30 : lw_okq (⟨"KindRowsModel", "weightOf", "(I)J"⟩, 27) := ⟨⟨by decide +kernel, by decide +kernel⟩, List.mem_of_getElem? (i := 545) (by decide +kernel), List.mem_of_getElem? (i := 765) (by decide +kernel), List.mem_of_getElem? (i := 766) (by decide +kernel)⟩
theorem lw_p31 : lw_okq (⟨"KindRowsModel", "heavyOf", "(I)J"⟩, 27) := ⟨⟨by decide +kernel, by decide +kernel⟩, List.mem_of_getElem? (i := 545) (by decide +kernel), List.mem_of_getElem? (i := 769) (by decide +kernel), List.mem_of_getElem? (i := 770) (by decide +kernel)⟩
def lw_privs_2 : List (MethodName × Nat) := [(⟨"KindRowsModel", "begin", "()V"⟩, 27), (⟨"KindRowsModel", "start", "(I)V"⟩, 27), (⟨"KindRowsModel", "part", "(J)V"⟩, 27), (⟨"KindRowsModel", "made", "()I"⟩, 27), (⟨"KindRowsModel", "leastLike", "(I)I"⟩, 27), (⟨"KindRowsModel", "isFigurePart", "(I)Z"⟩, 27), (⟨"KindRowsModel", "cellOf", "(II)J"⟩, 27), (⟨"KindRowsModel", "likeOf", "(J)I"⟩, 27), (⟨"KindRowsModel", "hashOf", "(I)I"⟩, 27), (⟨"KindRowsModel", "fails", "(III)I"⟩, 27), (⟨"KindRowsModel", "isFigure", "(I)Z"⟩, 27), (⟨"KindRowsModel", "laid", "(I)I"⟩, 27), (⟨"KindRowsModel", "hasPlace", "(II)Z"⟩, 27), (⟨"KindRowsModel", "at", "(IIJ)J"⟩, 27), (⟨"KindRowsModel", "weightOf", "(I)J"⟩, 27), (⟨"KindRowsModel", "heavyOf", "(I)J"⟩, 27)]
theorem lw_r2 : ∀ q ∈ lw_privs_2, lw_okq q := List.forall_mem_cons.mpr ⟨lw_p16, List.forall_mem_cons.mpr ⟨lw_p17, List.forall_mem_cons.mpr ⟨lw_p18, List.forall_mem_cons.mpr ⟨lw_p19, List.forall_mem_cons.mpr ⟨lw_p20, List.forall_mem_cons.mpr ⟨lw_p21, List.forall_mem_cons.mpr ⟨lw_p22, List.forall_mem_cons.mpr ⟨lw_p23, List.forall_mem_cons.mpr ⟨lw_p24, List.forall_mem_cons.mpr ⟨lw_p25, List.forall_mem_cons.mpr ⟨lw_p26, List.forall_mem_cons.mpr ⟨lw_p27, List.forall_mem_cons.mpr ⟨lw_p28, List.forall_mem_cons.mpr ⟨lw_p29, List.forall_mem_cons.mpr ⟨lw_p30, List.forall_mem_cons.mpr ⟨lw_p31, fun _ h => absurd h List.not_mem_nil⟩⟩⟩⟩⟩⟩⟩⟩⟩⟩⟩⟩⟩⟩⟩⟩
theorem lw_p32 : lw_okq (⟨"KindRowsModel", "ordered", "(II)I"⟩, 27) := ⟨⟨by decide +kernel, by decide +kernel⟩, List.mem_of_getElem? (i := 545) (by decide +kernel), List.mem_of_getElem? (i := 791) (by decide +kernel), List.mem_of_getElem? (i := 792) (by decide +kernel)⟩
theorem lw_p33 : lw_okq (⟨"KindRowsModel", "compared", "(II)I"⟩, 27) := ⟨⟨by decide +kernel, by decide +kernel⟩, List.mem_of_getElem? (i := 545) (by decide +kernel), List.mem_of_getElem? (i := 795) (by decide +kernel), List.mem_of_getElem? (i := 796) (by decide +kernel)⟩
theorem lw_p34 : lw_okq (⟨"KindRowsModel", "byRows", "(II)I"⟩, 27) := ⟨⟨by decide +kernel, by decide +kernel⟩, List.mem_of_getElem? (i := 545) (by decide +kernel), List.mem_of_getElem? (i := 802) (by decide +kernel), List.mem_of_getElem? (i := 803) (by decide +kernel)⟩
theorem lw_p35 : lw_okq (⟨"KindRowsModel", "tagOf", "(II)I"⟩, 27) := ⟨⟨by decide +kernel, by decide +kernel⟩, List.mem_of_getElem? (i := 545) (by decide +kernel), List.mem_of_getElem? (i := 824) (by decide +kernel), List.mem_of_getElem? (i := 825) (by decide +kernel)⟩
theorem lw_p36 : lw_okq (⟨"KindRowsModel", "constantOf", "(II)I"⟩, 27) := ⟨⟨by decide +kernel, by decide +kernel⟩, List.mem_of_getElem? (i := 545) (by decide +kernel), List.mem_of_getElem? (i := 839) (by decide +kernel), List.mem_of_getElem? (i := 840) (by decide +kernel)⟩
theorem lw_p37 : lw_okq (⟨"KindRowsModel", "isConstant", "(I)Z"⟩, 27) := ⟨⟨by decide +kernel, by decide +kernel⟩, List.mem_of_getElem? (i := 545) (by decide +kernel), List.mem_of_getElem? (i := 851) (by decide +kernel), List.mem_of_getElem? (i := 852) (by decide +kernel)⟩
theorem lw_p38 : lw_okq (⟨"KindRowsModel", "constantAt", "(II)I"⟩, 27) := ⟨⟨by decide +kernel, by decide +kernel⟩, List.mem_of_getElem? (i := 545) (by decide +kernel), List.mem_of_getElem? (i := 861) (by decide +kernel), List.mem_of_getElem? (i := 862) (by decide +kernel)⟩
theorem lw_p39 : lw_okq (⟨"KindRowsModel", "keyOf", "(I)I"⟩, 27) := ⟨⟨by decide +kernel, by decide +kernel⟩, List.mem_of_getElem? (i := 545) (by decide +kernel), List.mem_of_getElem? (i := 882) (by decide +kernel), List.mem_of_getElem? (i := 883) (by decide +kernel)⟩
def lw_privs_3 : List (MethodName × Nat) := [(⟨"KindRowsModel", "ordered", "(II)I"⟩, 27), (⟨"KindRowsModel", "compared", "(II)I"⟩, 27), (⟨"KindRowsModel", "byRows", "(II)I"⟩, 27), (⟨"KindRowsModel", "tagOf", "(II)I"⟩, 27), (⟨"KindRowsModel", "constantOf", "(II)I"⟩, 27), (⟨"KindRowsModel", "isConstant", "(I)Z"⟩, 27), (⟨"KindRowsModel", "constantAt", "(II)I"⟩, 27), (⟨"KindRowsModel", "keyOf", "(I)I"⟩, 27)]
theorem lw_r3 : ∀ q ∈ lw_privs_3, lw_okq q := List.forall_mem_cons.mpr ⟨lw_p32, List.forall_mem_cons.mpr ⟨lw_p33, List.forall_mem_cons.mpr ⟨lw_p34, List.forall_mem_cons.mpr ⟨lw_p35, List.forall_mem_cons.mpr ⟨lw_p36, List.forall_mem_cons.mpr ⟨lw_p37, List.forall_mem_cons.mpr ⟨lw_p38, List.forall_mem_cons.mpr ⟨lw_p39, fun _ h => absurd h List.not_mem_nil⟩⟩⟩⟩⟩⟩⟩⟩
def lw_privs : List (MethodName × Nat) := lw_privs_1 ++ (lw_privs_2 ++ (lw_privs_3))
def lw_tbl : List Cond := k2_sels lw_privs ++ tables_1
theorem lw_privs_ok : ∀ q ∈ lw_privs, lw_okq q := by
  show ∀ q ∈ lw_privs_1 ++ (lw_privs_2 ++ (lw_privs_3)), lw_okq q
  exact List.forall_mem_append.mpr ⟨lw_r1, List.forall_mem_append.mpr ⟨lw_r2, lw_r3⟩⟩
def RX0 : String := "KindRows$Constant"
def TX0 : u_T := fun k => match k with
  | 0 => ("KindRows$Constant", "enumeration", "I", true)
  | _ => ("KindRows$Constant", "name", "I", true)
def tyX0 : Nat → FieldType := fun k => match k with
  | 0 => .int
  | _ => .int
theorem nmX0 : ∀ a, a < 2 → ∀ b, b < 2 → a ≠ b → (TX0 a).2.1 ≠ (TX0 b).2.1 := by decide +kernel
theorem tyX0_ok : ∀ k, k < 2 → parseFieldDescriptor (TX0 k).2.2.1 = some (tyX0 k) := by decide +kernel
abbrev cX0_init : ByteArray := prog_2_method_1_code
def yX0_init : MethodName := ⟨RX0, "<init>", "(II)V"⟩
def RX1 : String := "KindRows$Enumeration"
def TX1 : u_T := fun k => match k with
  | 0 => ("KindRows$Enumeration", "members", "[I", true)
  | _ => ("KindRows$Enumeration", "size", "I", false)
def tyX1 : Nat → FieldType := fun k => match k with
  | 0 => .array .int
  | _ => .int
theorem nmX1 : ∀ a, a < 2 → ∀ b, b < 2 → a ≠ b → (TX1 a).2.1 ≠ (TX1 b).2.1 := by decide +kernel
theorem tyX1_ok : ∀ k, k < 2 → parseFieldDescriptor (TX1 k).2.2.1 = some (tyX1 k) := by decide +kernel
abbrev cX1_init : ByteArray := prog_3_method_1_code
def yX1_init : MethodName := ⟨RX1, "<init>", "()V"⟩
abbrev cX1_append : ByteArray := prog_3_method_2_code
def yX1_append : MethodName := ⟨RX1, "append", "(I)V"⟩
abbrev cX1_remove : ByteArray := prog_3_method_3_code
def yX1_remove : MethodName := ⟨RX1, "remove", "(I)V"⟩
abbrev cX1_placeOf : ByteArray := prog_3_method_4_code
def yX1_placeOf : MethodName := ⟨RX1, "placeOf", "(I)I"⟩
abbrev cX1_exchange : ByteArray := prog_3_method_5_code
def yX1_exchange : MethodName := ⟨RX1, "exchange", "(II)V"⟩
def RX2 : String := "KindRows$Failures"
def TX2 : u_T := fun k => match k with
  | 0 => ("KindRows$Failures", "latest", "I", false)
  | 1 => ("KindRows$Failures", "latestPart", "I", false)
  | 2 => ("KindRows$Failures", "latestOwn", "I", false)
  | _ => ("KindRows$Failures", "ever", "[I", true)
def tyX2 : Nat → FieldType := fun k => match k with
  | 0 => .int
  | 1 => .int
  | 2 => .int
  | _ => .array .int
theorem nmX2 : ∀ a, a < 4 → ∀ b, b < 4 → a ≠ b → (TX2 a).2.1 ≠ (TX2 b).2.1 := by decide +kernel
theorem tyX2_ok : ∀ k, k < 4 → parseFieldDescriptor (TX2 k).2.2.1 = some (tyX2 k) := by decide +kernel
abbrev cX2_init : ByteArray := prog_4_method_1_code
def yX2_init : MethodName := ⟨RX2, "<init>", "()V"⟩
abbrev cX2_none : ByteArray := prog_4_method_2_code
def yX2_none : MethodName := ⟨RX2, "none", "()V"⟩
abbrev cX2_own : ByteArray := prog_4_method_3_code
def yX2_own : MethodName := ⟨RX2, "own", "(II)I"⟩
abbrev cX2_inNoPart : ByteArray := prog_4_method_4_code
def yX2_inNoPart : MethodName := ⟨RX2, "inNoPart", "(I)I"⟩
abbrev cX2_inPart : ByteArray := prog_4_method_5_code
def yX2_inPart : MethodName := ⟨RX2, "inPart", "(II)I"⟩
abbrev cX2_everOf : ByteArray := prog_4_method_6_code
def yX2_everOf : MethodName := ⟨RX2, "everOf", "(I)I"⟩
def RX3 : String := "KindRows$Family"
def TX3 : u_T := fun k => match k with
  | 0 => ("KindRows$Family", "kinds", "[I", true)
  | _ => ("KindRows$Family", "size", "I", false)
def tyX3 : Nat → FieldType := fun k => match k with
  | 0 => .array .int
  | _ => .int
theorem nmX3 : ∀ a, a < 2 → ∀ b, b < 2 → a ≠ b → (TX3 a).2.1 ≠ (TX3 b).2.1 := by decide +kernel
theorem tyX3_ok : ∀ k, k < 2 → parseFieldDescriptor (TX3 k).2.2.1 = some (tyX3 k) := by decide +kernel
abbrev cX3_init : ByteArray := prog_5_method_1_code
def yX3_init : MethodName := ⟨RX3, "<init>", "([I)V"⟩
abbrev cX3_tagOf : ByteArray := prog_5_method_2_code
def yX3_tagOf : MethodName := ⟨RX3, "tagOf", "(LKindRows$Figure;)I"⟩
def RX4 : String := "KindRows$Figure"
def TX4 : u_T := fun k => match k with
  | 0 => ("KindRows$Figure", "kind", "I", true)
  | 1 => ("KindRows$Figure", "parts", "[J", true)
  | 2 => ("KindRows$Figure", "weight", "J", false)
  | 3 => ("KindRows$Figure", "wideAlone", "Z", false)
  | 4 => ("KindRows$Figure", "number", "I", false)
  | 5 => ("KindRows$Figure", "hash", "I", false)
  | _ => ("KindRows$Figure", "before", "I", false)
def tyX4 : Nat → FieldType := fun k => match k with
  | 0 => .int
  | 1 => .array .long
  | 2 => .long
  | 3 => .boolean
  | 4 => .int
  | 5 => .int
  | _ => .int
theorem nmX4 : ∀ a, a < 7 → ∀ b, b < 7 → a ≠ b → (TX4 a).2.1 ≠ (TX4 b).2.1 := by decide +kernel
theorem tyX4_ok : ∀ k, k < 7 → parseFieldDescriptor (TX4 k).2.2.1 = some (tyX4 k) := by decide +kernel
abbrev cX4_init : ByteArray := prog_6_method_1_code
def yX4_init : MethodName := ⟨RX4, "<init>", "(I[JJ)V"⟩
abbrev cX4_isOf : ByteArray := prog_6_method_2_code
def yX4_isOf : MethodName := ⟨RX4, "isOf", "(I)Z"⟩
abbrev cX4_isLike : ByteArray := prog_6_method_3_code
def yX4_isLike : MethodName := ⟨RX4, "isLike", "(LKindRows$Figure;)Z"⟩
abbrev cX4_hasPlace : ByteArray := prog_6_method_4_code
def yX4_hasPlace : MethodName := ⟨RX4, "hasPlace", "(I)Z"⟩
abbrev cX4_hold : ByteArray := prog_6_method_5_code
def yX4_hold : MethodName := ⟨RX4, "hold", "(II)V"⟩
abbrev cX4_heavyWeight : ByteArray := prog_6_method_6_code
def yX4_heavyWeight : MethodName := ⟨RX4, "heavyWeight", "()J"⟩
def RX5 : String := "KindRows$Figures"
def TX5 : u_T := fun k => match k with
  | 0 => ("KindRows$Figures", "all", "[LKindRows$Figure;", true)
  | 1 => ("KindRows$Figures", "ranking", "[LKindRows$Figure;", true)
  | _ => ("KindRows$Figures", "count", "I", false)
def tyX5 : Nat → FieldType := fun k => match k with
  | 0 => .array (.object "KindRows$Figure")
  | 1 => .array (.object "KindRows$Figure")
  | _ => .int
theorem nmX5 : ∀ a, a < 3 → ∀ b, b < 3 → a ≠ b → (TX5 a).2.1 ≠ (TX5 b).2.1 := by decide +kernel
theorem tyX5_ok : ∀ k, k < 3 → parseFieldDescriptor (TX5 k).2.2.1 = some (tyX5 k) := by decide +kernel
abbrev cX5_init : ByteArray := prog_7_method_1_code
def yX5_init : MethodName := ⟨RX5, "<init>", "()V"⟩
abbrev cX5_isFull : ByteArray := prog_7_method_2_code
def yX5_isFull : MethodName := ⟨RX5, "isFull", "()Z"⟩
abbrev cX5_find : ByteArray := prog_7_method_3_code
def yX5_find : MethodName := ⟨RX5, "find", "(J)LKindRows$Figure;"⟩
abbrev cX5_hasOrNone : ByteArray := prog_7_method_4_code
def yX5_hasOrNone : MethodName := ⟨RX5, "hasOrNone", "(I)Z"⟩
abbrev cX5_add : ByteArray := prog_7_method_5_code
def yX5_add : MethodName := ⟨RX5, "add", "(LKindRows$Figure;)I"⟩
abbrev cX5_weighPairs : ByteArray := prog_7_method_6_code
def yX5_weighPairs : MethodName := ⟨RX5, "weighPairs", "()V"⟩
abbrev cX5_numberRanked : ByteArray := prog_7_method_7_code
def yX5_numberRanked : MethodName := ⟨RX5, "numberRanked", "(I)I"⟩
abbrev cX5_firstLike : ByteArray := prog_7_method_8_code
def yX5_firstLike : MethodName := ⟨RX5, "firstLike", "(LKindRows$Figure;)I"⟩
abbrev cX5_hashOf : ByteArray := prog_7_method_9_code
def yX5_hashOf : MethodName := ⟨RX5, "hashOf", "(LKindRows$Figure;)I"⟩
abbrev cX5_hashOfNumbered : ByteArray := prog_7_method_10_code
def yX5_hashOfNumbered : MethodName := ⟨RX5, "hashOfNumbered", "(J)I"⟩
abbrev cX5_rank : ByteArray := prog_7_method_11_code
def yX5_rank : MethodName := ⟨RX5, "rank", "(LKindRows$Figure;)V"⟩
abbrev cX5_compare : ByteArray := prog_7_method_12_code
def yX5_compare : MethodName := ⟨RX5, "compare", "(LKindRows$Figure;LKindRows$Figure;)I"⟩
abbrev cX5_compareAtK : ByteArray := prog_7_method_13_code
def yX5_compareAtK : MethodName := ⟨RX5, "compareAtK", "(LKindRows$Figure;LKindRows$Figure;)I"⟩
abbrev cX5_compareFrom : ByteArray := prog_7_method_14_code
def yX5_compareFrom : MethodName := ⟨RX5, "compareFrom", "(ILKindRows$Figure;LKindRows$Figure;)I"⟩
abbrev cX5_sortKey : ByteArray := prog_7_method_15_code
def yX5_sortKey : MethodName := ⟨RX5, "sortKey", "(IJ)J"⟩
def RX6 : String := "KindRows$Keys"
def TX6 : u_T := fun k => match k with
  | 0 => ("KindRows$Keys", "known", "[I", true)
  | 1 => ("KindRows$Keys", "values", "[I", true)
  | _ => ("KindRows$Keys", "size", "I", false)
def tyX6 : Nat → FieldType := fun k => match k with
  | 0 => .array .int
  | 1 => .array .int
  | _ => .int
theorem nmX6 : ∀ a, a < 3 → ∀ b, b < 3 → a ≠ b → (TX6 a).2.1 ≠ (TX6 b).2.1 := by decide +kernel
theorem tyX6_ok : ∀ k, k < 3 → parseFieldDescriptor (TX6 k).2.2.1 = some (tyX6 k) := by decide +kernel
abbrev cX6_init : ByteArray := prog_8_method_1_code
def yX6_init : MethodName := ⟨RX6, "<init>", "()V"⟩
abbrev cX6_store : ByteArray := prog_8_method_2_code
def yX6_store : MethodName := ⟨RX6, "store", "(II)I"⟩
abbrev cX6_valueOf : ByteArray := prog_8_method_3_code
def yX6_valueOf : MethodName := ⟨RX6, "valueOf", "(I)I"⟩
abbrev cX6_placeOf : ByteArray := prog_8_method_4_code
def yX6_placeOf : MethodName := ⟨RX6, "placeOf", "(I)I"⟩
def RX7 : String := "KindRows"
def TX7 : u_T := fun k => match k with
  | 0 => ("KindRows", "failures", "LKindRows$Failures;", true)
  | 1 => ("KindRows", "figures", "LKindRows$Figures;", true)
  | 2 => ("KindRows", "numbers", "[I", true)
  | 3 => ("KindRows", "laid", "I", false)
  | 4 => ("KindRows", "families", "[LKindRows$Family;", true)
  | 5 => ("KindRows", "familyCount", "I", false)
  | 6 => ("KindRows", "constants", "[LKindRows$Constant;", true)
  | 7 => ("KindRows", "constantCount", "I", false)
  | 8 => ("KindRows", "enumerations", "[LKindRows$Enumeration;", true)
  | 9 => ("KindRows", "keys", "LKindRows$Keys;", true)
  | _ => ("KindRows", "link", "J", false)
def tyX7 : Nat → FieldType := fun k => match k with
  | 0 => .object "KindRows$Failures"
  | 1 => .object "KindRows$Figures"
  | 2 => .array .int
  | 3 => .int
  | 4 => .array (.object "KindRows$Family")
  | 5 => .int
  | 6 => .array (.object "KindRows$Constant")
  | 7 => .int
  | 8 => .array (.object "KindRows$Enumeration")
  | 9 => .object "KindRows$Keys"
  | _ => .long
theorem nmX7 : ∀ a, a < 11 → ∀ b, b < 11 → a ≠ b → (TX7 a).2.1 ≠ (TX7 b).2.1 := by decide +kernel
theorem tyX7_ok : ∀ k, k < 11 → parseFieldDescriptor (TX7 k).2.2.1 = some (tyX7 k) := by decide +kernel
abbrev cX7_init : ByteArray := prog_1_method_1_code
def yX7_init : MethodName := ⟨RX7, "<init>", "()V"⟩
abbrev cX7_cause : ByteArray := prog_1_method_2_code
def yX7_cause : MethodName := ⟨RX7, "cause", "(I)I"⟩
abbrev cX7_lay : ByteArray := prog_1_method_3_code
def yX7_lay : MethodName := ⟨RX7, "lay", "(I)I"⟩
abbrev cX7_wipe : ByteArray := prog_1_method_4_code
def yX7_wipe : MethodName := ⟨RX7, "wipe", "()I"⟩
abbrev cX7_point : ByteArray := prog_1_method_5_code
def yX7_point : MethodName := ⟨RX7, "point", "(JJ)I"⟩
abbrev cX7_span : ByteArray := prog_1_method_6_code
def yX7_span : MethodName := ⟨RX7, "span", "(II)I"⟩
abbrev cX7_wide : ByteArray := prog_1_method_7_code
def yX7_wide : MethodName := ⟨RX7, "wide", "(III)I"⟩
abbrev cX7_share : ByteArray := prog_1_method_8_code
def yX7_share : MethodName := ⟨RX7, "share", "(JJ)I"⟩
abbrev cX7_pair : ByteArray := prog_1_method_9_code
def yX7_pair : MethodName := ⟨RX7, "pair", "(II)I"⟩
abbrev cX7_row : ByteArray := prog_1_method_10_code
def yX7_row : MethodName := ⟨RX7, "row", "(II)I"⟩
abbrev cX7_shelf : ByteArray := prog_1_method_11_code
def yX7_shelf : MethodName := ⟨RX7, "shelf", "(ZI)I"⟩
abbrev cX7_set : ByteArray := prog_1_method_12_code
def yX7_set : MethodName := ⟨RX7, "set", "(III)I"⟩
abbrev cX7_at : ByteArray := prog_1_method_13_code
def yX7_at : MethodName := ⟨RX7, "at", "(II)I"⟩
abbrev cX7_kind : ByteArray := prog_1_method_14_code
def yX7_kind : MethodName := ⟨RX7, "kind", "(I)I"⟩
abbrev cX7_parts : ByteArray := prog_1_method_15_code
def yX7_parts : MethodName := ⟨RX7, "parts", "(I)I"⟩
abbrev cX7_part : ByteArray := prog_1_method_16_code
def yX7_part : MethodName := ⟨RX7, "part", "(II)J"⟩
abbrev cX7_weight : ByteArray := prog_1_method_17_code
def yX7_weight : MethodName := ⟨RX7, "weight", "(IZ)J"⟩
abbrev cX7_equal : ByteArray := prog_1_method_18_code
def yX7_equal : MethodName := ⟨RX7, "equal", "(II)I"⟩
abbrev cX7_hash : ByteArray := prog_1_method_19_code
def yX7_hash : MethodName := ⟨RX7, "hash", "(I)I"⟩
abbrev cX7_order : ByteArray := prog_1_method_20_code
def yX7_order : MethodName := ⟨RX7, "order", "(II)I"⟩
abbrev cX7_ranked : ByteArray := prog_1_method_21_code
def yX7_ranked : MethodName := ⟨RX7, "ranked", "(I)I"⟩
abbrev cX7_first : ByteArray := prog_1_method_22_code
def yX7_first : MethodName := ⟨RX7, "first", "(I)I"⟩
abbrev cX7_family : ByteArray := prog_1_method_23_code
def yX7_family : MethodName := ⟨RX7, "family", "(IIII)I"⟩
abbrev cX7_tag : ByteArray := prog_1_method_24_code
def yX7_tag : MethodName := ⟨RX7, "tag", "(II)I"⟩
abbrev cX7_tagged : ByteArray := prog_1_method_25_code
def yX7_tagged : MethodName := ⟨RX7, "tagged", "(II)I"⟩
abbrev cX7_constant : ByteArray := prog_1_method_26_code
def yX7_constant : MethodName := ⟨RX7, "constant", "(II)I"⟩
abbrev cX7_named : ByteArray := prog_1_method_27_code
def yX7_named : MethodName := ⟨RX7, "named", "(II)I"⟩
abbrev cX7_drop : ByteArray := prog_1_method_28_code
def yX7_drop : MethodName := ⟨RX7, "drop", "(I)I"⟩
abbrev cX7_reorder : ByteArray := prog_1_method_29_code
def yX7_reorder : MethodName := ⟨RX7, "reorder", "(I)I"⟩
abbrev cX7_seed : ByteArray := prog_1_method_30_code
def yX7_seed : MethodName := ⟨RX7, "seed", "(I)I"⟩
abbrev cX7_told : ByteArray := prog_1_method_31_code
def yX7_told : MethodName := ⟨RX7, "told", "(II)I"⟩
abbrev cX7_placed : ByteArray := prog_1_method_32_code
def yX7_placed : MethodName := ⟨RX7, "placed", "(II)I"⟩
abbrev cX7_put : ByteArray := prog_1_method_33_code
def yX7_put : MethodName := ⟨RX7, "put", "(II)I"⟩
abbrev cX7_get : ByteArray := prog_1_method_34_code
def yX7_get : MethodName := ⟨RX7, "get", "(I)I"⟩
abbrev cX7_count : ByteArray := prog_1_method_35_code
def yX7_count : MethodName := ⟨RX7, "count", "(I)I"⟩
abbrev cX7_oneNan : ByteArray := prog_1_method_36_code
def yX7_oneNan : MethodName := ⟨RX7, "oneNan", "(J)J"⟩
abbrev cX7_lengthOf : ByteArray := prog_1_method_37_code
def yX7_lengthOf : MethodName := ⟨RX7, "lengthOf", "(II)J"⟩
abbrev cX7_numberAt : ByteArray := prog_1_method_38_code
def yX7_numberAt : MethodName := ⟨RX7, "numberAt", "(I)I"⟩
abbrev cX7_rowParts : ByteArray := prog_1_method_39_code
def yX7_rowParts : MethodName := ⟨RX7, "rowParts", "(III)[J"⟩
abbrev cX7_areKindsOnce : ByteArray := prog_1_method_40_code
def yX7_areKindsOnce : MethodName := ⟨RX7, "areKindsOnce", "([I)Z"⟩
abbrev cX7_findFamily : ByteArray := prog_1_method_41_code
def yX7_findFamily : MethodName := ⟨RX7, "findFamily", "(I)LKindRows$Family;"⟩
abbrev cX7_findConstant : ByteArray := prog_1_method_42_code
def yX7_findConstant : MethodName := ⟨RX7, "findConstant", "(I)LKindRows$Constant;"⟩
abbrev cX7_findEnumeration : ByteArray := prog_1_method_43_code
def yX7_findEnumeration : MethodName := ⟨RX7, "findEnumeration", "(I)LKindRows$Enumeration;"⟩
abbrev cX7_homeOf : ByteArray := prog_1_method_44_code
def yX7_homeOf : MethodName := ⟨RX7, "homeOf", "(I)LKindRows$Enumeration;"⟩
abbrev cX7_memberNamed : ByteArray := prog_1_method_45_code
def yX7_memberNamed : MethodName := ⟨RX7, "memberNamed", "(LKindRows$Enumeration;I)I"⟩
abbrev cX7_membersOfAll : ByteArray := prog_1_method_46_code
def yX7_membersOfAll : MethodName := ⟨RX7, "membersOfAll", "()I"⟩
abbrev cX7_drawBelow : ByteArray := prog_1_method_47_code
def yX7_drawBelow : MethodName := ⟨RX7, "drawBelow", "(I)I"⟩
abbrev cX7_keyOf : ByteArray := prog_1_method_48_code
def yX7_keyOf : MethodName := ⟨RX7, "keyOf", "(LKindRows$Constant;)I"⟩
def RX8 : String := "KindRowsModel"
def TX8 : u_T := fun k => match k with
  | 0 => ("KindRowsModel", "failure", "I", false)
  | 1 => ("KindRowsModel", "failPart", "I", false)
  | 2 => ("KindRowsModel", "failOwn", "I", false)
  | 3 => ("KindRowsModel", "ever", "[I", true)
  | 4 => ("KindRowsModel", "numbers", "I", false)
  | 5 => ("KindRowsModel", "number", "[I", true)
  | 6 => ("KindRowsModel", "figures", "I", false)
  | 7 => ("KindRowsModel", "kind", "[I", true)
  | 8 => ("KindRowsModel", "many", "[I", true)
  | 9 => ("KindRowsModel", "cell", "[J", true)
  | 10 => ("KindRowsModel", "isWide", "[Z", true)
  | 11 => ("KindRowsModel", "like", "[I", true)
  | 12 => ("KindRowsModel", "hash", "[I", true)
  | 13 => ("KindRowsModel", "weights", "[J", true)
  | 14 => ("KindRowsModel", "families", "I", false)
  | 15 => ("KindRowsModel", "familyMany", "[I", true)
  | 16 => ("KindRowsModel", "familyKind", "[I", true)
  | 17 => ("KindRowsModel", "constants", "I", false)
  | 18 => ("KindRowsModel", "enumeration", "[I", true)
  | 19 => ("KindRowsModel", "name", "[I", true)
  | 20 => ("KindRowsModel", "placeOf", "[I", true)
  | 21 => ("KindRowsModel", "has", "[I", true)
  | 22 => ("KindRowsModel", "link", "J", false)
  | 23 => ("KindRowsModel", "keys", "I", false)
  | 24 => ("KindRowsModel", "keyEnumeration", "[I", true)
  | 25 => ("KindRowsModel", "keyName", "[I", true)
  | _ => ("KindRowsModel", "keyValue", "[I", true)
def tyX8 : Nat → FieldType := fun k => match k with
  | 0 => .int
  | 1 => .int
  | 2 => .int
  | 3 => .array .int
  | 4 => .int
  | 5 => .array .int
  | 6 => .int
  | 7 => .array .int
  | 8 => .array .int
  | 9 => .array .long
  | 10 => .array .boolean
  | 11 => .array .int
  | 12 => .array .int
  | 13 => .array .long
  | 14 => .int
  | 15 => .array .int
  | 16 => .array .int
  | 17 => .int
  | 18 => .array .int
  | 19 => .array .int
  | 20 => .array .int
  | 21 => .array .int
  | 22 => .long
  | 23 => .int
  | 24 => .array .int
  | 25 => .array .int
  | _ => .array .int
theorem nmX8 : ∀ a, a < 27 → ∀ b, b < 27 → a ≠ b → (TX8 a).2.1 ≠ (TX8 b).2.1 := by decide +kernel
theorem tyX8_ok : ∀ k, k < 27 → parseFieldDescriptor (TX8 k).2.2.1 = some (tyX8 k) := by decide +kernel
abbrev cX8_init : ByteArray := prog_10_method_1_code
def yX8_init : MethodName := ⟨RX8, "<init>", "()V"⟩
abbrev cX8_begin : ByteArray := prog_10_method_2_code
def yX8_begin : MethodName := ⟨RX8, "begin", "()V"⟩
abbrev cX8_fails : ByteArray := prog_10_method_3_code
def yX8_fails : MethodName := ⟨RX8, "fails", "(III)I"⟩
abbrev cX8_cause : ByteArray := prog_10_method_4_code
def yX8_cause : MethodName := ⟨RX8, "cause", "(I)I"⟩
abbrev cX8_lay : ByteArray := prog_10_method_5_code
def yX8_lay : MethodName := ⟨RX8, "lay", "(I)I"⟩
abbrev cX8_wipe : ByteArray := prog_10_method_6_code
def yX8_wipe : MethodName := ⟨RX8, "wipe", "()I"⟩
abbrev cX8_isFigure : ByteArray := prog_10_method_7_code
def yX8_isFigure : MethodName := ⟨RX8, "isFigure", "(I)Z"⟩
abbrev cX8_at : ByteArray := prog_10_method_8_code
def yX8_at : MethodName := ⟨RX8, "at", "(IIJ)J"⟩
abbrev cX8_cellOf : ByteArray := prog_10_method_9_code
def yX8_cellOf : MethodName := ⟨RX8, "cellOf", "(II)J"⟩
abbrev cX8_start : ByteArray := prog_10_method_10_code
def yX8_start : MethodName := ⟨RX8, "start", "(I)V"⟩
abbrev cX8_part : ByteArray := prog_10_method_11_code
def yX8_part : MethodName := ⟨RX8, "part", "(J)V"⟩
abbrev cX8_isFigurePart : ByteArray := prog_10_method_12_code
def yX8_isFigurePart : MethodName := ⟨RX8, "isFigurePart", "(I)Z"⟩
abbrev cX8_leastLike : ByteArray := prog_10_method_13_code
def yX8_leastLike : MethodName := ⟨RX8, "leastLike", "(I)I"⟩
abbrev cX8_likeOf : ByteArray := prog_10_method_14_code
def yX8_likeOf : MethodName := ⟨RX8, "likeOf", "(J)I"⟩
abbrev cX8_folded : ByteArray := prog_10_method_15_code
def yX8_folded : MethodName := ⟨RX8, "folded", "(J)I"⟩
abbrev cX8_hashOf : ByteArray := prog_10_method_16_code
def yX8_hashOf : MethodName := ⟨RX8, "hashOf", "(I)I"⟩
abbrev cX8_made : ByteArray := prog_10_method_17_code
def yX8_made : MethodName := ⟨RX8, "made", "()I"⟩
abbrev cX8_clean : ByteArray := prog_10_method_18_code
def yX8_clean : MethodName := ⟨RX8, "clean", "(J)J"⟩
abbrev cX8_point : ByteArray := prog_10_method_19_code
def yX8_point : MethodName := ⟨RX8, "point", "(JJ)I"⟩
abbrev cX8_span : ByteArray := prog_10_method_20_code
def yX8_span : MethodName := ⟨RX8, "span", "(II)I"⟩
abbrev cX8_wide : ByteArray := prog_10_method_21_code
def yX8_wide : MethodName := ⟨RX8, "wide", "(III)I"⟩
abbrev cX8_share : ByteArray := prog_10_method_22_code
def yX8_share : MethodName := ⟨RX8, "share", "(JJ)I"⟩
abbrev cX8_pair : ByteArray := prog_10_method_23_code
def yX8_pair : MethodName := ⟨RX8, "pair", "(II)I"⟩
abbrev cX8_laid : ByteArray := prog_10_method_24_code
def yX8_laid : MethodName := ⟨RX8, "laid", "(I)I"⟩
abbrev cX8_row : ByteArray := prog_10_method_25_code
def yX8_row : MethodName := ⟨RX8, "row", "(II)I"⟩
abbrev cX8_shelf : ByteArray := prog_10_method_26_code
def yX8_shelf : MethodName := ⟨RX8, "shelf", "(ZI)I"⟩
abbrev cX8_hasPlace : ByteArray := prog_10_method_27_code
def yX8_hasPlace : MethodName := ⟨RX8, "hasPlace", "(II)Z"⟩
abbrev cX8_set : ByteArray := prog_10_method_28_code
def yX8_set : MethodName := ⟨RX8, "set", "(III)I"⟩
abbrev cX8_at_ : ByteArray := prog_10_method_29_code
def yX8_at_ : MethodName := ⟨RX8, "at", "(II)I"⟩
abbrev cX8_kind : ByteArray := prog_10_method_30_code
def yX8_kind : MethodName := ⟨RX8, "kind", "(I)I"⟩
abbrev cX8_parts : ByteArray := prog_10_method_31_code
def yX8_parts : MethodName := ⟨RX8, "parts", "(I)I"⟩
abbrev cX8_part_ : ByteArray := prog_10_method_32_code
def yX8_part_ : MethodName := ⟨RX8, "part", "(II)J"⟩
abbrev cX8_heavyOf : ByteArray := prog_10_method_33_code
def yX8_heavyOf : MethodName := ⟨RX8, "heavyOf", "(I)J"⟩
abbrev cX8_weightOf : ByteArray := prog_10_method_34_code
def yX8_weightOf : MethodName := ⟨RX8, "weightOf", "(I)J"⟩
abbrev cX8_weight : ByteArray := prog_10_method_35_code
def yX8_weight : MethodName := ⟨RX8, "weight", "(IZ)J"⟩
abbrev cX8_equal : ByteArray := prog_10_method_36_code
def yX8_equal : MethodName := ⟨RX8, "equal", "(II)I"⟩
abbrev cX8_hash : ByteArray := prog_10_method_37_code
def yX8_hash : MethodName := ⟨RX8, "hash", "(I)I"⟩
abbrev cX8_first : ByteArray := prog_10_method_38_code
def yX8_first : MethodName := ⟨RX8, "first", "(I)I"⟩
abbrev cX8_by : ByteArray := prog_10_method_39_code
def yX8_by : MethodName := ⟨RX8, "by", "(JJ)I"⟩
abbrev cX8_line : ByteArray := prog_10_method_40_code
def yX8_line : MethodName := ⟨RX8, "line", "(J)J"⟩
abbrev cX8_byRows : ByteArray := prog_10_method_41_code
def yX8_byRows : MethodName := ⟨RX8, "byRows", "(II)I"⟩
abbrev cX8_compared : ByteArray := prog_10_method_42_code
def yX8_compared : MethodName := ⟨RX8, "compared", "(II)I"⟩
abbrev cX8_ordered : ByteArray := prog_10_method_43_code
def yX8_ordered : MethodName := ⟨RX8, "ordered", "(II)I"⟩
abbrev cX8_order : ByteArray := prog_10_method_44_code
def yX8_order : MethodName := ⟨RX8, "order", "(II)I"⟩
abbrev cX8_ranked : ByteArray := prog_10_method_45_code
def yX8_ranked : MethodName := ⟨RX8, "ranked", "(I)I"⟩
abbrev cX8_told4 : ByteArray := prog_10_method_46_code
def yX8_told4 : MethodName := ⟨RX8, "told4", "(IIIII)I"⟩
abbrev cX8_family : ByteArray := prog_10_method_47_code
def yX8_family : MethodName := ⟨RX8, "family", "(IIII)I"⟩
abbrev cX8_tagOf : ByteArray := prog_10_method_48_code
def yX8_tagOf : MethodName := ⟨RX8, "tagOf", "(II)I"⟩
abbrev cX8_tag : ByteArray := prog_10_method_49_code
def yX8_tag : MethodName := ⟨RX8, "tag", "(II)I"⟩
abbrev cX8_tagged : ByteArray := prog_10_method_50_code
def yX8_tagged : MethodName := ⟨RX8, "tagged", "(II)I"⟩
abbrev cX8_isEnumeration : ByteArray := prog_10_method_51_code
def yX8_isEnumeration : MethodName := ⟨RX8, "isEnumeration", "(I)Z"⟩
abbrev cX8_isConstant : ByteArray := prog_10_method_52_code
def yX8_isConstant : MethodName := ⟨RX8, "isConstant", "(I)Z"⟩
abbrev cX8_constantAt : ByteArray := prog_10_method_53_code
def yX8_constantAt : MethodName := ⟨RX8, "constantAt", "(II)I"⟩
abbrev cX8_constantOf : ByteArray := prog_10_method_54_code
def yX8_constantOf : MethodName := ⟨RX8, "constantOf", "(II)I"⟩
abbrev cX8_constant : ByteArray := prog_10_method_55_code
def yX8_constant : MethodName := ⟨RX8, "constant", "(II)I"⟩
abbrev cX8_named : ByteArray := prog_10_method_56_code
def yX8_named : MethodName := ⟨RX8, "named", "(II)I"⟩
abbrev cX8_drop : ByteArray := prog_10_method_57_code
def yX8_drop : MethodName := ⟨RX8, "drop", "(I)I"⟩
abbrev cX8_reorder : ByteArray := prog_10_method_58_code
def yX8_reorder : MethodName := ⟨RX8, "reorder", "(I)I"⟩
abbrev cX8_seed : ByteArray := prog_10_method_59_code
def yX8_seed : MethodName := ⟨RX8, "seed", "(I)I"⟩
abbrev cX8_told : ByteArray := prog_10_method_60_code
def yX8_told : MethodName := ⟨RX8, "told", "(II)I"⟩
abbrev cX8_placed : ByteArray := prog_10_method_61_code
def yX8_placed : MethodName := ⟨RX8, "placed", "(II)I"⟩
abbrev cX8_keyOf : ByteArray := prog_10_method_62_code
def yX8_keyOf : MethodName := ⟨RX8, "keyOf", "(I)I"⟩
abbrev cX8_put : ByteArray := prog_10_method_63_code
def yX8_put : MethodName := ⟨RX8, "put", "(II)I"⟩
abbrev cX8_get : ByteArray := prog_10_method_64_code
def yX8_get : MethodName := ⟨RX8, "get", "(I)I"⟩
abbrev cX8_count : ByteArray := prog_10_method_65_code
def yX8_count : MethodName := ⟨RX8, "count", "(I)I"⟩
def RJ6 : String := "java/lang/Integer"
def TJ6 : u_T := fun k => match k with
  | _ => ("", "", "", false)
def tyJ6 : Nat → FieldType := fun k => match k with
  | _ => .int
theorem nmJ6 : ∀ a, a < 0 → ∀ b, b < 0 → a ≠ b → (TJ6 a).2.1 ≠ (TJ6 b).2.1 := by decide +kernel
theorem tyJ6_ok : ∀ k, k < 0 → parseFieldDescriptor (TJ6 k).2.2.1 = some (tyJ6 k) := by decide +kernel
abbrev cJ6_compare_7cf53 : ByteArray := prog_11_method_40_code
def yJ6_compare_7cf53 : MethodName := ⟨RJ6, "compare", "(II)I"⟩
def RJ13 : String := "java/lang/Long"
def TJ13 : u_T := fun k => match k with
  | _ => ("", "", "", false)
def tyJ13 : Nat → FieldType := fun k => match k with
  | _ => .int
theorem nmJ13 : ∀ a, a < 0 → ∀ b, b < 0 → a ≠ b → (TJ13 a).2.1 ≠ (TJ13 b).2.1 := by decide +kernel
theorem tyJ13_ok : ∀ k, k < 0 → parseFieldDescriptor (TJ13 k).2.2.1 = some (tyJ13 k) := by decide +kernel
abbrev cJ13_compare_74951 : ByteArray := prog_12_method_42_code
def yJ13_compare_74951 : MethodName := ⟨RJ13, "compare", "(JJ)I"⟩
def RJ9 : String := "java/lang/Math"
def TJ9 : u_T := fun k => match k with
  | _ => ("", "", "", false)
def tyJ9 : Nat → FieldType := fun k => match k with
  | _ => .int
theorem nmJ9 : ∀ a, a < 0 → ∀ b, b < 0 → a ≠ b → (TJ9 a).2.1 ≠ (TJ9 b).2.1 := by decide +kernel
theorem tyJ9_ok : ∀ k, k < 0 → parseFieldDescriptor (TJ9 k).2.2.1 = some (tyJ9 k) := by decide +kernel
abbrev cJ9_abs_067f4 : ByteArray := prog_13_method_61_code
def yJ9_abs_067f4 : MethodName := ⟨RJ9, "abs", "(J)J"⟩
abbrev cJ9_min_7cf53 : ByteArray := prog_13_method_69_code
def yJ9_min_7cf53 : MethodName := ⟨RJ9, "min", "(II)I"⟩
def RL : String := "KindRowsLaw"
abbrev cL_law : ByteArray := code
def yL_law : MethodName := ⟨RL, "law", "([I)Z"⟩
abbrev vwCl : List vw_C := [(RX0, TX0, 2), (RX1, TX1, 2), (RX2, TX2, 4), (RX3, TX3, 2), (RX4, TX4, 7), (RX5, TX5, 3), (RX6, TX6, 3), (RX7, TX7, 11), (RX8, TX8, 27)]
end
section
/-- which words of the tables go with a warmed machine -/
def zgood : Cond → Bool
  | .arrayClass _ => true
  | .fieldLinkNest .. => true
  | .methodLinkNest .. => true
  | .arrayOver (.object _) => true
  | w => w.onTables && w.keeps
def zTbl : List Cond := lw_tbl.filter zgood
theorem zmem {w : Cond} (h : w ∈ lw_tbl) (g : zgood w = true) : w ∈ zTbl := List.mem_filter.mpr ⟨h, g⟩
theorem zintab {w : Cond} (h : w ∈ tables_1) (g : zgood w = true) : w ∈ zTbl := zmem (List.mem_append_right _ h) g
theorem zin1 {w : Cond} (h : w ∈ tables_1_1) (g : zgood w = true) : w ∈ zTbl := zintab (List.mem_append_left _ (h)) g
theorem zin2 {w : Cond} (h : w ∈ tables_1_2) (g : zgood w = true) : w ∈ zTbl := zintab (List.mem_append_right _ (List.mem_append_left _ (h))) g
theorem zin3 {w : Cond} (h : w ∈ tables_1_3) (g : zgood w = true) : w ∈ zTbl := zintab (List.mem_append_right _ (List.mem_append_right _ (List.mem_append_left _ (h)))) g
theorem zin4 {w : Cond} (h : w ∈ tables_1_4) (g : zgood w = true) : w ∈ zTbl := zintab (List.mem_append_right _ (List.mem_append_right _ (List.mem_append_right _ (h)))) g
theorem mV_yX5_hashOf : Cond.selects RX5 yX5_hashOf yX5_hashOf ∈ zTbl := zmem (List.mem_append_left _ (List.mem_of_getElem? (i := 0) (by decide +kernel))) rfl
theorem mV_yX5_hashOfNumbered : Cond.selects RX5 yX5_hashOfNumbered yX5_hashOfNumbered ∈ zTbl := zmem (List.mem_append_left _ (List.mem_of_getElem? (i := 1) (by decide +kernel))) rfl
theorem mV_yX5_rank : Cond.selects RX5 yX5_rank yX5_rank ∈ zTbl := zmem (List.mem_append_left _ (List.mem_of_getElem? (i := 2) (by decide +kernel))) rfl
theorem mV_yX5_compare : Cond.selects RX5 yX5_compare yX5_compare ∈ zTbl := zmem (List.mem_append_left _ (List.mem_of_getElem? (i := 3) (by decide +kernel))) rfl
theorem mV_yX5_compareFrom : Cond.selects RX5 yX5_compareFrom yX5_compareFrom ∈ zTbl := zmem (List.mem_append_left _ (List.mem_of_getElem? (i := 4) (by decide +kernel))) rfl
theorem mV_yX5_sortKey : Cond.selects RX5 yX5_sortKey yX5_sortKey ∈ zTbl := zmem (List.mem_append_left _ (List.mem_of_getElem? (i := 5) (by decide +kernel))) rfl
theorem mV_yX7_numberAt : Cond.selects RX7 yX7_numberAt yX7_numberAt ∈ zTbl := zmem (List.mem_append_left _ (List.mem_of_getElem? (i := 6) (by decide +kernel))) rfl
theorem mV_yX7_rowParts : Cond.selects RX7 yX7_rowParts yX7_rowParts ∈ zTbl := zmem (List.mem_append_left _ (List.mem_of_getElem? (i := 7) (by decide +kernel))) rfl
theorem mV_yX7_findFamily : Cond.selects RX7 yX7_findFamily yX7_findFamily ∈ zTbl := zmem (List.mem_append_left _ (List.mem_of_getElem? (i := 8) (by decide +kernel))) rfl
theorem mV_yX7_findEnumeration : Cond.selects RX7 yX7_findEnumeration yX7_findEnumeration ∈ zTbl := zmem (List.mem_append_left _ (List.mem_of_getElem? (i := 9) (by decide +kernel))) rfl
theorem mV_yX7_memberNamed : Cond.selects RX7 yX7_memberNamed yX7_memberNamed ∈ zTbl := zmem (List.mem_append_left _ (List.mem_of_getElem? (i := 10) (by decide +kernel))) rfl
theorem mV_yX7_findConstant : Cond.selects RX7 yX7_findConstant yX7_findConstant ∈ zTbl := zmem (List.mem_append_left _ (List.mem_of_getElem? (i := 11) (by decide +kernel))) rfl
theorem mV_yX7_homeOf : Cond.selects RX7 yX7_homeOf yX7_homeOf ∈ zTbl := zmem (List.mem_append_left _ (List.mem_of_getElem? (i := 12) (by decide +kernel))) rfl
theorem mV_yX7_drawBelow : Cond.selects RX7 yX7_drawBelow yX7_drawBelow ∈ zTbl := zmem (List.mem_append_left _ (List.mem_of_getElem? (i := 13) (by decide +kernel))) rfl
theorem mV_yX6_placeOf : Cond.selects RX6 yX6_placeOf yX6_placeOf ∈ zTbl := zmem (List.mem_append_left _ (List.mem_of_getElem? (i := 14) (by decide +kernel))) rfl
theorem mV_yX7_membersOfAll : Cond.selects RX7 yX7_membersOfAll yX7_membersOfAll ∈ zTbl := zmem (List.mem_append_left _ (List.mem_of_getElem? (i := 15) (by decide +kernel))) rfl
theorem mV_yX8_begin : Cond.selects RX8 yX8_begin yX8_begin ∈ zTbl := zmem (List.mem_append_left _ (List.mem_of_getElem? (i := 16) (by decide +kernel))) rfl
theorem mV_yX8_start : Cond.selects RX8 yX8_start yX8_start ∈ zTbl := zmem (List.mem_append_left _ (List.mem_of_getElem? (i := 17) (by decide +kernel))) rfl
theorem mV_yX8_part : Cond.selects RX8 yX8_part yX8_part ∈ zTbl := zmem (List.mem_append_left _ (List.mem_of_getElem? (i := 18) (by decide +kernel))) rfl
theorem mV_yX8_made : Cond.selects RX8 yX8_made yX8_made ∈ zTbl := zmem (List.mem_append_left _ (List.mem_of_getElem? (i := 19) (by decide +kernel))) rfl
theorem mV_yX8_leastLike : Cond.selects RX8 yX8_leastLike yX8_leastLike ∈ zTbl := zmem (List.mem_append_left _ (List.mem_of_getElem? (i := 20) (by decide +kernel))) rfl
theorem mV_yX8_isFigurePart : Cond.selects RX8 yX8_isFigurePart yX8_isFigurePart ∈ zTbl := zmem (List.mem_append_left _ (List.mem_of_getElem? (i := 21) (by decide +kernel))) rfl
theorem mV_yX8_cellOf : Cond.selects RX8 yX8_cellOf yX8_cellOf ∈ zTbl := zmem (List.mem_append_left _ (List.mem_of_getElem? (i := 22) (by decide +kernel))) rfl
theorem mV_yX8_likeOf : Cond.selects RX8 yX8_likeOf yX8_likeOf ∈ zTbl := zmem (List.mem_append_left _ (List.mem_of_getElem? (i := 23) (by decide +kernel))) rfl
theorem mV_yX8_hashOf : Cond.selects RX8 yX8_hashOf yX8_hashOf ∈ zTbl := zmem (List.mem_append_left _ (List.mem_of_getElem? (i := 24) (by decide +kernel))) rfl
theorem mV_yX8_fails : Cond.selects RX8 yX8_fails yX8_fails ∈ zTbl := zmem (List.mem_append_left _ (List.mem_of_getElem? (i := 25) (by decide +kernel))) rfl
theorem mV_yX8_isFigure : Cond.selects RX8 yX8_isFigure yX8_isFigure ∈ zTbl := zmem (List.mem_append_left _ (List.mem_of_getElem? (i := 26) (by decide +kernel))) rfl
theorem mV_yX8_laid : Cond.selects RX8 yX8_laid yX8_laid ∈ zTbl := zmem (List.mem_append_left _ (List.mem_of_getElem? (i := 27) (by decide +kernel))) rfl
theorem mV_yX8_hasPlace : Cond.selects RX8 yX8_hasPlace yX8_hasPlace ∈ zTbl := zmem (List.mem_append_left _ (List.mem_of_getElem? (i := 28) (by decide +kernel))) rfl
theorem mV_yX8_at : Cond.selects RX8 yX8_at yX8_at ∈ zTbl := zmem (List.mem_append_left _ (List.mem_of_getElem? (i := 29) (by decide +kernel))) rfl
theorem mV_yX8_weightOf : Cond.selects RX8 yX8_weightOf yX8_weightOf ∈ zTbl := zmem (List.mem_append_left _ (List.mem_of_getElem? (i := 30) (by decide +kernel))) rfl
theorem mV_yX8_heavyOf : Cond.selects RX8 yX8_heavyOf yX8_heavyOf ∈ zTbl := zmem (List.mem_append_left _ (List.mem_of_getElem? (i := 31) (by decide +kernel))) rfl
theorem mV_yX8_ordered : Cond.selects RX8 yX8_ordered yX8_ordered ∈ zTbl := zmem (List.mem_append_left _ (List.mem_of_getElem? (i := 32) (by decide +kernel))) rfl
theorem mV_yX8_compared : Cond.selects RX8 yX8_compared yX8_compared ∈ zTbl := zmem (List.mem_append_left _ (List.mem_of_getElem? (i := 33) (by decide +kernel))) rfl
theorem mV_yX8_byRows : Cond.selects RX8 yX8_byRows yX8_byRows ∈ zTbl := zmem (List.mem_append_left _ (List.mem_of_getElem? (i := 34) (by decide +kernel))) rfl
theorem mV_yX8_tagOf : Cond.selects RX8 yX8_tagOf yX8_tagOf ∈ zTbl := zmem (List.mem_append_left _ (List.mem_of_getElem? (i := 35) (by decide +kernel))) rfl
theorem mV_yX8_constantOf : Cond.selects RX8 yX8_constantOf yX8_constantOf ∈ zTbl := zmem (List.mem_append_left _ (List.mem_of_getElem? (i := 36) (by decide +kernel))) rfl
theorem mV_yX8_isConstant : Cond.selects RX8 yX8_isConstant yX8_isConstant ∈ zTbl := zmem (List.mem_append_left _ (List.mem_of_getElem? (i := 37) (by decide +kernel))) rfl
theorem mV_yX8_constantAt : Cond.selects RX8 yX8_constantAt yX8_constantAt ∈ zTbl := zmem (List.mem_append_left _ (List.mem_of_getElem? (i := 38) (by decide +kernel))) rfl
theorem mV_yX8_keyOf : Cond.selects RX8 yX8_keyOf yX8_keyOf ∈ zTbl := zmem (List.mem_append_left _ (List.mem_of_getElem? (i := 39) (by decide +kernel))) rfl
theorem mIn_RL : Cond.initialized RL ∈ zTbl := zin1 (List.mem_of_getElem? (i := 0) (by decide +kernel)) rfl
theorem mIn_RX7 : Cond.initialized RX7 ∈ zTbl := zin1 (List.mem_of_getElem? (i := 1) (by decide +kernel)) rfl
theorem mIn_RX2 : Cond.initialized RX2 ∈ zTbl := zin1 (List.mem_of_getElem? (i := 2) (by decide +kernel)) rfl
theorem mIn_RX5 : Cond.initialized RX5 ∈ zTbl := zin1 (List.mem_of_getElem? (i := 3) (by decide +kernel)) rfl
theorem mIn_RX6 : Cond.initialized RX6 ∈ zTbl := zin1 (List.mem_of_getElem? (i := 4) (by decide +kernel)) rfl
theorem mIn_RX1 : Cond.initialized RX1 ∈ zTbl := zin1 (List.mem_of_getElem? (i := 5) (by decide +kernel)) rfl
theorem mIn_RX8 : Cond.initialized RX8 ∈ zTbl := zin1 (List.mem_of_getElem? (i := 6) (by decide +kernel)) rfl
theorem mIn_RX4 : Cond.initialized RX4 ∈ zTbl := zin1 (List.mem_of_getElem? (i := 7) (by decide +kernel)) rfl
theorem mIn_RJ6 : Cond.initialized RJ6 ∈ zTbl := zin1 (List.mem_of_getElem? (i := 8) (by decide +kernel)) rfl
theorem mIn_RJ9 : Cond.initialized RJ9 ∈ zTbl := zin1 (List.mem_of_getElem? (i := 9) (by decide +kernel)) rfl
theorem mIn_RJ13 : Cond.initialized RJ13 ∈ zTbl := zin1 (List.mem_of_getElem? (i := 10) (by decide +kernel)) rfl
theorem mIn_RX3 : Cond.initialized RX3 ∈ zTbl := zin1 (List.mem_of_getElem? (i := 11) (by decide +kernel)) rfl
theorem mIn_RX0 : Cond.initialized RX0 ∈ zTbl := zin1 (List.mem_of_getElem? (i := 12) (by decide +kernel)) rfl
theorem mLL_7 : Cond.classLink RL 7 RX7 ∈ zTbl := zin1 (List.mem_of_getElem? (i := 13) (by decide +kernel)) rfl
theorem mIa_RX7 : Cond.instantiable RX7 11 ∈ zTbl := zin1 (List.mem_of_getElem? (i := 14) (by decide +kernel)) rfl
theorem mML_9 : Cond.methodLink RL 9 yX7_init ∈ zTbl := zin1 (List.mem_of_getElem? (i := 15) (by decide +kernel)) rfl
theorem mI_yX7_init : Cond.instanceMethod yX7_init ∈ zTbl := zin1 (List.mem_of_getElem? (i := 16) (by decide +kernel)) rfl
theorem mC_yX7_init : Cond.code yX7_init prog_1_method_1_code 2 (Option.none : Option Jvm.ClassFile.FieldType) ∈ zTbl := zin1 (List.mem_of_getElem? (i := 17) (by decide +kernel)) rfl
theorem mMX7_1 : Cond.methodLink RX7 1 Lib.objectInit ∈ zTbl := zin1 (List.mem_of_getElem? (i := 18) (by decide +kernel)) rfl
theorem mI_yObj : Cond.instanceMethod Lib.objectInit ∈ zTbl := zin1 (List.mem_of_getElem? (i := 19) (by decide +kernel)) rfl
theorem mC_yObj : Cond.code Lib.objectInit ⟨#[0xb1]⟩ 1 none ∈ zTbl := zin1 (List.mem_of_getElem? (i := 20) (by decide +kernel)) rfl
theorem mLX7_7 : Cond.classLink RX7 7 RX2 ∈ zTbl := zin1 (List.mem_of_getElem? (i := 21) (by decide +kernel)) rfl
theorem mIa_RX2 : Cond.instantiable RX2 4 ∈ zTbl := zin1 (List.mem_of_getElem? (i := 22) (by decide +kernel)) rfl
theorem mMNX7_9 : Cond.methodLinkNest RX7 9 yX2_init "KindRows" ∈ zTbl := zin1 (List.mem_of_getElem? (i := 23) (by decide +kernel)) rfl
theorem mI_yX2_init : Cond.instanceMethod yX2_init ∈ zTbl := zin1 (List.mem_of_getElem? (i := 24) (by decide +kernel)) rfl
theorem mC_yX2_init : Cond.code yX2_init prog_4_method_1_code 1 (Option.none : Option Jvm.ClassFile.FieldType) ∈ zTbl := zin1 (List.mem_of_getElem? (i := 25) (by decide +kernel)) rfl
theorem mMX2_3 : Cond.methodLink RX2 3 Lib.objectInit ∈ zTbl := zin1 (List.mem_of_getElem? (i := 26) (by decide +kernel)) rfl
theorem mFX2_9 : Cond.fieldLink RX2 9 (TX2 0).1 (TX2 0).2.1 (TX2 0).2.2.1 ∈ zTbl := zin1 (List.mem_of_getElem? (i := 27) (by decide +kernel)) rfl
theorem mFNX7_67 : Cond.fieldLinkNest RX7 67 (TX2 0).1 (TX2 0).2.1 (TX2 0).2.2.1 "KindRows" ∈ zTbl := zin1 (List.mem_of_getElem? (i := 28) (by decide +kernel)) rfl
theorem mFX2_15 : Cond.fieldLink RX2 15 (TX2 1).1 (TX2 1).2.1 (TX2 1).2.2.1 ∈ zTbl := zin1 (List.mem_of_getElem? (i := 29) (by decide +kernel)) rfl
theorem mFNX7_70 : Cond.fieldLinkNest RX7 70 (TX2 1).1 (TX2 1).2.1 (TX2 1).2.2.1 "KindRows" ∈ zTbl := zin1 (List.mem_of_getElem? (i := 30) (by decide +kernel)) rfl
theorem mFX2_18 : Cond.fieldLink RX2 18 (TX2 2).1 (TX2 2).2.1 (TX2 2).2.2.1 ∈ zTbl := zin1 (List.mem_of_getElem? (i := 31) (by decide +kernel)) rfl
theorem mFNX7_73 : Cond.fieldLinkNest RX7 73 (TX2 2).1 (TX2 2).2.1 (TX2 2).2.2.1 "KindRows" ∈ zTbl := zin1 (List.mem_of_getElem? (i := 32) (by decide +kernel)) rfl
theorem mFX2_21 : Cond.fieldLink RX2 21 (TX2 3).1 (TX2 3).2.1 (TX2 3).2.2.1 ∈ zTbl := zin1 (List.mem_of_getElem? (i := 33) (by decide +kernel)) rfl
theorem mA_int : Cond.arrayClass .int ∈ zTbl := zin1 (List.mem_of_getElem? (i := 43) (by decide +kernel)) rfl
theorem mLX7_16 : Cond.classLink RX7 16 RX5 ∈ zTbl := zin1 (List.mem_of_getElem? (i := 44) (by decide +kernel)) rfl
theorem mIa_RX5 : Cond.instantiable RX5 3 ∈ zTbl := zin1 (List.mem_of_getElem? (i := 45) (by decide +kernel)) rfl
theorem mMNX7_18 : Cond.methodLinkNest RX7 18 yX5_init "KindRows" ∈ zTbl := zin1 (List.mem_of_getElem? (i := 46) (by decide +kernel)) rfl
theorem mI_yX5_init : Cond.instanceMethod yX5_init ∈ zTbl := zin1 (List.mem_of_getElem? (i := 47) (by decide +kernel)) rfl
theorem mC_yX5_init : Cond.code yX5_init prog_7_method_1_code 1 (Option.none : Option Jvm.ClassFile.FieldType) ∈ zTbl := zin1 (List.mem_of_getElem? (i := 48) (by decide +kernel)) rfl
theorem mMX5_3 : Cond.methodLink RX5 3 Lib.objectInit ∈ zTbl := zin1 (List.mem_of_getElem? (i := 49) (by decide +kernel)) rfl
theorem mLX5_11 : Cond.classLink RX5 11 RX4 ∈ zTbl := zin1 (List.mem_of_getElem? (i := 50) (by decide +kernel)) rfl
theorem mAO_RX4 : Cond.arrayOver (.object RX4) ∈ zTbl := zin1 (List.mem_of_getElem? (i := 51) (by decide +kernel)) rfl
theorem mFX5_13 : Cond.fieldLink RX5 13 (TX5 0).1 (TX5 0).2.1 (TX5 0).2.2.1 ∈ zTbl := zin1 (List.mem_of_getElem? (i := 52) (by decide +kernel)) rfl
theorem mFX5_17 : Cond.fieldLink RX5 17 (TX5 1).1 (TX5 1).2.1 (TX5 1).2.2.1 ∈ zTbl := zin1 (List.mem_of_getElem? (i := 53) (by decide +kernel)) rfl
theorem mFX5_20 : Cond.fieldLink RX5 20 (TX5 2).1 (TX5 2).2.1 (TX5 2).2.2.1 ∈ zTbl := zin1 (List.mem_of_getElem? (i := 54) (by decide +kernel)) rfl
theorem mFNX7_201 : Cond.fieldLinkNest RX7 201 (TX5 2).1 (TX5 2).2.1 (TX5 2).2.2.1 "KindRows" ∈ zTbl := zin1 (List.mem_of_getElem? (i := 55) (by decide +kernel)) rfl
theorem mLX7_31 : Cond.classLink RX7 31 RX3 ∈ zTbl := zin1 (List.mem_of_getElem? (i := 63) (by decide +kernel)) rfl
theorem mAO_RX3 : Cond.arrayOver (.object RX3) ∈ zTbl := zin1 (List.mem_of_getElem? (i := 64) (by decide +kernel)) rfl
theorem mLX7_40 : Cond.classLink RX7 40 RX0 ∈ zTbl := zin1 (List.mem_of_getElem? (i := 65) (by decide +kernel)) rfl
theorem mAO_RX0 : Cond.arrayOver (.object RX0) ∈ zTbl := zin1 (List.mem_of_getElem? (i := 66) (by decide +kernel)) rfl
theorem mLX7_49 : Cond.classLink RX7 49 RX1 ∈ zTbl := zin1 (List.mem_of_getElem? (i := 67) (by decide +kernel)) rfl
theorem mAO_RX1 : Cond.arrayOver (.object RX1) ∈ zTbl := zin1 (List.mem_of_getElem? (i := 68) (by decide +kernel)) rfl
theorem mLX7_55 : Cond.classLink RX7 55 RX6 ∈ zTbl := zin1 (List.mem_of_getElem? (i := 69) (by decide +kernel)) rfl
theorem mIa_RX6 : Cond.instantiable RX6 3 ∈ zTbl := zin1 (List.mem_of_getElem? (i := 70) (by decide +kernel)) rfl
theorem mMNX7_57 : Cond.methodLinkNest RX7 57 yX6_init "KindRows" ∈ zTbl := zin1 (List.mem_of_getElem? (i := 71) (by decide +kernel)) rfl
theorem mI_yX6_init : Cond.instanceMethod yX6_init ∈ zTbl := zin1 (List.mem_of_getElem? (i := 72) (by decide +kernel)) rfl
theorem mC_yX6_init : Cond.code yX6_init prog_8_method_1_code 1 (Option.none : Option Jvm.ClassFile.FieldType) ∈ zTbl := zin1 (List.mem_of_getElem? (i := 73) (by decide +kernel)) rfl
theorem mMX6_3 : Cond.methodLink RX6 3 Lib.objectInit ∈ zTbl := zin1 (List.mem_of_getElem? (i := 74) (by decide +kernel)) rfl
theorem mFX6_11 : Cond.fieldLink RX6 11 (TX6 0).1 (TX6 0).2.1 (TX6 0).2.2.1 ∈ zTbl := zin1 (List.mem_of_getElem? (i := 75) (by decide +kernel)) rfl
theorem mFX6_15 : Cond.fieldLink RX6 15 (TX6 1).1 (TX6 1).2.1 (TX6 1).2.2.1 ∈ zTbl := zin1 (List.mem_of_getElem? (i := 76) (by decide +kernel)) rfl
theorem mFX6_18 : Cond.fieldLink RX6 18 (TX6 2).1 (TX6 2).2.1 (TX6 2).2.2.1 ∈ zTbl := zin1 (List.mem_of_getElem? (i := 77) (by decide +kernel)) rfl
theorem mFNX7_265 : Cond.fieldLinkNest RX7 265 (TX6 2).1 (TX6 2).2.1 (TX6 2).2.2.1 "KindRows" ∈ zTbl := zin1 (List.mem_of_getElem? (i := 78) (by decide +kernel)) rfl
theorem mIa_RX1 : Cond.instantiable RX1 2 ∈ zTbl := zin1 (List.mem_of_getElem? (i := 86) (by decide +kernel)) rfl
theorem mMNX7_66 : Cond.methodLinkNest RX7 66 yX1_init "KindRows" ∈ zTbl := zin1 (List.mem_of_getElem? (i := 87) (by decide +kernel)) rfl
theorem mI_yX1_init : Cond.instanceMethod yX1_init ∈ zTbl := zin1 (List.mem_of_getElem? (i := 88) (by decide +kernel)) rfl
theorem mC_yX1_init : Cond.code yX1_init prog_3_method_1_code 1 (Option.none : Option Jvm.ClassFile.FieldType) ∈ zTbl := zin1 (List.mem_of_getElem? (i := 89) (by decide +kernel)) rfl
theorem mMX1_3 : Cond.methodLink RX1 3 Lib.objectInit ∈ zTbl := zin1 (List.mem_of_getElem? (i := 90) (by decide +kernel)) rfl
theorem mFX1_9 : Cond.fieldLink RX1 9 (TX1 0).1 (TX1 0).2.1 (TX1 0).2.2.1 ∈ zTbl := zin1 (List.mem_of_getElem? (i := 91) (by decide +kernel)) rfl
theorem mFNX7_248 : Cond.fieldLinkNest RX7 248 (TX1 0).1 (TX1 0).2.1 (TX1 0).2.2.1 "KindRows" ∈ zTbl := zin1 (List.mem_of_getElem? (i := 92) (by decide +kernel)) rfl
theorem mFX1_15 : Cond.fieldLink RX1 15 (TX1 1).1 (TX1 1).2.1 (TX1 1).2.2.1 ∈ zTbl := zin1 (List.mem_of_getElem? (i := 93) (by decide +kernel)) rfl
theorem mFNX7_227 : Cond.fieldLinkNest RX7 227 (TX1 1).1 (TX1 1).2.1 (TX1 1).2.2.1 "KindRows" ∈ zTbl := zin1 (List.mem_of_getElem? (i := 94) (by decide +kernel)) rfl
theorem mFX7_10 : Cond.fieldLink RX7 10 (TX7 0).1 (TX7 0).2.1 (TX7 0).2.2.1 ∈ zTbl := zin1 (List.mem_of_getElem? (i := 100) (by decide +kernel)) rfl
theorem mFX7_19 : Cond.fieldLink RX7 19 (TX7 1).1 (TX7 1).2.1 (TX7 1).2.2.1 ∈ zTbl := zin1 (List.mem_of_getElem? (i := 101) (by decide +kernel)) rfl
theorem mFX7_23 : Cond.fieldLink RX7 23 (TX7 2).1 (TX7 2).2.1 (TX7 2).2.2.1 ∈ zTbl := zin1 (List.mem_of_getElem? (i := 102) (by decide +kernel)) rfl
theorem mFX7_27 : Cond.fieldLink RX7 27 (TX7 3).1 (TX7 3).2.1 (TX7 3).2.2.1 ∈ zTbl := zin1 (List.mem_of_getElem? (i := 103) (by decide +kernel)) rfl
theorem mFX7_33 : Cond.fieldLink RX7 33 (TX7 4).1 (TX7 4).2.1 (TX7 4).2.2.1 ∈ zTbl := zin1 (List.mem_of_getElem? (i := 104) (by decide +kernel)) rfl
theorem mFX7_37 : Cond.fieldLink RX7 37 (TX7 5).1 (TX7 5).2.1 (TX7 5).2.2.1 ∈ zTbl := zin1 (List.mem_of_getElem? (i := 105) (by decide +kernel)) rfl
theorem mFX7_42 : Cond.fieldLink RX7 42 (TX7 6).1 (TX7 6).2.1 (TX7 6).2.2.1 ∈ zTbl := zin1 (List.mem_of_getElem? (i := 106) (by decide +kernel)) rfl
theorem mFX7_46 : Cond.fieldLink RX7 46 (TX7 7).1 (TX7 7).2.1 (TX7 7).2.2.1 ∈ zTbl := zin1 (List.mem_of_getElem? (i := 107) (by decide +kernel)) rfl
theorem mFX7_51 : Cond.fieldLink RX7 51 (TX7 8).1 (TX7 8).2.1 (TX7 8).2.2.1 ∈ zTbl := zin1 (List.mem_of_getElem? (i := 108) (by decide +kernel)) rfl
theorem mFX7_58 : Cond.fieldLink RX7 58 (TX7 9).1 (TX7 9).2.1 (TX7 9).2.2.1 ∈ zTbl := zin1 (List.mem_of_getElem? (i := 109) (by decide +kernel)) rfl
theorem mFX7_62 : Cond.fieldLink RX7 62 (TX7 10).1 (TX7 10).2.1 (TX7 10).2.2.1 ∈ zTbl := zin1 (List.mem_of_getElem? (i := 110) (by decide +kernel)) rfl
theorem mML_13 : Cond.methodLink RL 13 yX7_cause ∈ zTbl := zin1 (List.mem_of_getElem? (i := 134) (by decide +kernel)) rfl
theorem mI_yX7_cause : Cond.instanceMethod yX7_cause ∈ zTbl := zin1 (List.mem_of_getElem? (i := 135) (by decide +kernel)) rfl
theorem mV_yX7_cause : Cond.selects RX7 yX7_cause yX7_cause ∈ zTbl := zin1 (List.mem_of_getElem? (i := 136) (by decide +kernel)) rfl
theorem mC_yX7_cause : Cond.code yX7_cause prog_1_method_2_code 2 (Option.some Jvm.ClassFile.FieldType.int) ∈ zTbl := zin1 (List.mem_of_getElem? (i := 137) (by decide +kernel)) rfl
theorem mML_18 : Cond.methodLink RL 18 yX7_lay ∈ zTbl := zin1 (List.mem_of_getElem? (i := 138) (by decide +kernel)) rfl
theorem mI_yX7_lay : Cond.instanceMethod yX7_lay ∈ zTbl := zin1 (List.mem_of_getElem? (i := 139) (by decide +kernel)) rfl
theorem mV_yX7_lay : Cond.selects RX7 yX7_lay yX7_lay ∈ zTbl := zin1 (List.mem_of_getElem? (i := 140) (by decide +kernel)) rfl
theorem mC_yX7_lay : Cond.code yX7_lay prog_1_method_3_code 2 (Option.some Jvm.ClassFile.FieldType.int) ∈ zTbl := zin1 (List.mem_of_getElem? (i := 141) (by decide +kernel)) rfl
theorem mML_22 : Cond.methodLink RL 22 yX7_wipe ∈ zTbl := zin1 (List.mem_of_getElem? (i := 142) (by decide +kernel)) rfl
theorem mI_yX7_wipe : Cond.instanceMethod yX7_wipe ∈ zTbl := zin1 (List.mem_of_getElem? (i := 143) (by decide +kernel)) rfl
theorem mV_yX7_wipe : Cond.selects RX7 yX7_wipe yX7_wipe ∈ zTbl := zin1 (List.mem_of_getElem? (i := 144) (by decide +kernel)) rfl
theorem mC_yX7_wipe : Cond.code yX7_wipe prog_1_method_4_code 2 (Option.some Jvm.ClassFile.FieldType.int) ∈ zTbl := zin1 (List.mem_of_getElem? (i := 145) (by decide +kernel)) rfl
theorem mML_29 : Cond.methodLink RL 29 yX7_point ∈ zTbl := zin1 (List.mem_of_getElem? (i := 146) (by decide +kernel)) rfl
theorem mI_yX7_point : Cond.instanceMethod yX7_point ∈ zTbl := zin1 (List.mem_of_getElem? (i := 147) (by decide +kernel)) rfl
theorem mV_yX7_point : Cond.selects RX7 yX7_point yX7_point ∈ zTbl := zin1 (List.mem_of_getElem? (i := 148) (by decide +kernel)) rfl
theorem mC_yX7_point : Cond.code yX7_point prog_1_method_5_code 5 (Option.some Jvm.ClassFile.FieldType.int) ∈ zTbl := zin1 (List.mem_of_getElem? (i := 149) (by decide +kernel)) rfl
theorem mMX7_76 : Cond.methodLink RX7 76 yX2_none ∈ zTbl := zin1 (List.mem_of_getElem? (i := 150) (by decide +kernel)) rfl
theorem mI_yX2_none : Cond.instanceMethod yX2_none ∈ zTbl := zin1 (List.mem_of_getElem? (i := 151) (by decide +kernel)) rfl
theorem mV_yX2_none : Cond.selects RX2 yX2_none yX2_none ∈ zTbl := zin1 (List.mem_of_getElem? (i := 152) (by decide +kernel)) rfl
theorem mC_yX2_none : Cond.code yX2_none prog_4_method_2_code 1 (Option.none : Option Jvm.ClassFile.FieldType) ∈ zTbl := zin1 (List.mem_of_getElem? (i := 153) (by decide +kernel)) rfl
theorem mMX7_79 : Cond.methodLink RX7 79 yX5_isFull ∈ zTbl := zin1 (List.mem_of_getElem? (i := 154) (by decide +kernel)) rfl
theorem mI_yX5_isFull : Cond.instanceMethod yX5_isFull ∈ zTbl := zin1 (List.mem_of_getElem? (i := 155) (by decide +kernel)) rfl
theorem mV_yX5_isFull : Cond.selects RX5 yX5_isFull yX5_isFull ∈ zTbl := zin1 (List.mem_of_getElem? (i := 156) (by decide +kernel)) rfl
theorem mC_yX5_isFull : Cond.code yX5_isFull prog_7_method_2_code 1 (Option.some Jvm.ClassFile.FieldType.boolean) ∈ zTbl := zin1 (List.mem_of_getElem? (i := 157) (by decide +kernel)) rfl
theorem mLX7_83 : Cond.classLink RX7 83 RX4 ∈ zTbl := zin1 (List.mem_of_getElem? (i := 158) (by decide +kernel)) rfl
theorem mIa_RX4 : Cond.instantiable RX4 7 ∈ zTbl := zin1 (List.mem_of_getElem? (i := 159) (by decide +kernel)) rfl
theorem mMX7_85 : Cond.methodLink RX7 85 yX7_oneNan ∈ zTbl := zin1 (List.mem_of_getElem? (i := 160) (by decide +kernel)) rfl
theorem mS_yX7_oneNan : Cond.static yX7_oneNan ∈ zTbl := zin1 (List.mem_of_getElem? (i := 161) (by decide +kernel)) rfl
theorem mC_yX7_oneNan : Cond.code yX7_oneNan prog_1_method_36_code 3 (Option.some Jvm.ClassFile.FieldType.long) ∈ zTbl := zin1 (List.mem_of_getElem? (i := 162) (by decide +kernel)) rfl
theorem mKX7_269 : Cond.constantLong RX7 269 (9223372036854775807) ∈ zTbl := zin1 (List.mem_of_getElem? (i := 163) (by decide +kernel)) rfl
theorem mKX7_271 : Cond.constantLong RX7 271 (9218868437227405312) ∈ zTbl := zin1 (List.mem_of_getElem? (i := 164) (by decide +kernel)) rfl
theorem mKX7_273 : Cond.constantLong RX7 273 (9221120237041090560) ∈ zTbl := zin1 (List.mem_of_getElem? (i := 165) (by decide +kernel)) rfl
theorem mMX7_89 : Cond.methodLink RX7 89 yX4_init ∈ zTbl := zin1 (List.mem_of_getElem? (i := 166) (by decide +kernel)) rfl
theorem mI_yX4_init : Cond.instanceMethod yX4_init ∈ zTbl := zin1 (List.mem_of_getElem? (i := 167) (by decide +kernel)) rfl
theorem mC_yX4_init : Cond.code yX4_init prog_6_method_1_code 5 (Option.none : Option Jvm.ClassFile.FieldType) ∈ zTbl := zin1 (List.mem_of_getElem? (i := 168) (by decide +kernel)) rfl
theorem mMX4_3 : Cond.methodLink RX4 3 Lib.objectInit ∈ zTbl := zin1 (List.mem_of_getElem? (i := 169) (by decide +kernel)) rfl
theorem mFX4_25 : Cond.fieldLink RX4 25 (TX4 0).1 (TX4 0).2.1 (TX4 0).2.2.1 ∈ zTbl := zin1 (List.mem_of_getElem? (i := 170) (by decide +kernel)) rfl
theorem mFNX3_19 : Cond.fieldLinkNest RX3 19 (TX4 0).1 (TX4 0).2.1 (TX4 0).2.2.1 "KindRows" ∈ zTbl := zin1 (List.mem_of_getElem? (i := 171) (by decide +kernel)) rfl
theorem mFNX5_42 : Cond.fieldLinkNest RX5 42 (TX4 0).1 (TX4 0).2.1 (TX4 0).2.2.1 "KindRows" ∈ zTbl := zin1 (List.mem_of_getElem? (i := 172) (by decide +kernel)) rfl
theorem mFNX7_134 : Cond.fieldLinkNest RX7 134 (TX4 0).1 (TX4 0).2.1 (TX4 0).2.2.1 "KindRows" ∈ zTbl := zin1 (List.mem_of_getElem? (i := 173) (by decide +kernel)) rfl
theorem mFX4_28 : Cond.fieldLink RX4 28 (TX4 1).1 (TX4 1).2.1 (TX4 1).2.2.1 ∈ zTbl := zin1 (List.mem_of_getElem? (i := 174) (by decide +kernel)) rfl
theorem mFNX5_45 : Cond.fieldLinkNest RX5 45 (TX4 1).1 (TX4 1).2.1 (TX4 1).2.2.1 "KindRows" ∈ zTbl := zin1 (List.mem_of_getElem? (i := 175) (by decide +kernel)) rfl
theorem mFNX7_150 : Cond.fieldLinkNest RX7 150 (TX4 1).1 (TX4 1).2.1 (TX4 1).2.2.1 "KindRows" ∈ zTbl := zin1 (List.mem_of_getElem? (i := 176) (by decide +kernel)) rfl
theorem mFX4_32 : Cond.fieldLink RX4 32 (TX4 2).1 (TX4 2).2.1 (TX4 2).2.2.1 ∈ zTbl := zin1 (List.mem_of_getElem? (i := 177) (by decide +kernel)) rfl
theorem mFNX5_53 : Cond.fieldLinkNest RX5 53 (TX4 2).1 (TX4 2).2.1 (TX4 2).2.2.1 "KindRows" ∈ zTbl := zin1 (List.mem_of_getElem? (i := 178) (by decide +kernel)) rfl
theorem mFNX7_163 : Cond.fieldLinkNest RX7 163 (TX4 2).1 (TX4 2).2.1 (TX4 2).2.2.1 "KindRows" ∈ zTbl := zin1 (List.mem_of_getElem? (i := 179) (by decide +kernel)) rfl
theorem mFX4_9 : Cond.fieldLink RX4 9 (TX4 3).1 (TX4 3).2.1 (TX4 3).2.2.1 ∈ zTbl := zin1 (List.mem_of_getElem? (i := 180) (by decide +kernel)) rfl
theorem mFNX7_126 : Cond.fieldLinkNest RX7 126 (TX4 3).1 (TX4 3).2.1 (TX4 3).2.2.1 "KindRows" ∈ zTbl := zin1 (List.mem_of_getElem? (i := 181) (by decide +kernel)) rfl
theorem mFX4_15 : Cond.fieldLink RX4 15 (TX4 4).1 (TX4 4).2.1 (TX4 4).2.2.1 ∈ zTbl := zin1 (List.mem_of_getElem? (i := 182) (by decide +kernel)) rfl
theorem mFNX5_28 : Cond.fieldLinkNest RX5 28 (TX4 4).1 (TX4 4).2.1 (TX4 4).2.2.1 "KindRows" ∈ zTbl := zin1 (List.mem_of_getElem? (i := 183) (by decide +kernel)) rfl
theorem mFX4_19 : Cond.fieldLink RX4 19 (TX4 5).1 (TX4 5).2.1 (TX4 5).2.2.1 ∈ zTbl := zin1 (List.mem_of_getElem? (i := 184) (by decide +kernel)) rfl
theorem mFNX5_35 : Cond.fieldLinkNest RX5 35 (TX4 5).1 (TX4 5).2.1 (TX4 5).2.2.1 "KindRows" ∈ zTbl := zin1 (List.mem_of_getElem? (i := 185) (by decide +kernel)) rfl
theorem mFNX7_170 : Cond.fieldLinkNest RX7 170 (TX4 5).1 (TX4 5).2.1 (TX4 5).2.2.1 "KindRows" ∈ zTbl := zin1 (List.mem_of_getElem? (i := 186) (by decide +kernel)) rfl
theorem mFX4_22 : Cond.fieldLink RX4 22 (TX4 6).1 (TX4 6).2.1 (TX4 6).2.2.1 ∈ zTbl := zin1 (List.mem_of_getElem? (i := 187) (by decide +kernel)) rfl
theorem mFNX5_69 : Cond.fieldLinkNest RX5 69 (TX4 6).1 (TX4 6).2.1 (TX4 6).2.2.1 "KindRows" ∈ zTbl := zin1 (List.mem_of_getElem? (i := 188) (by decide +kernel)) rfl
theorem mFNX7_173 : Cond.fieldLinkNest RX7 173 (TX4 6).1 (TX4 6).2.1 (TX4 6).2.2.1 "KindRows" ∈ zTbl := zin1 (List.mem_of_getElem? (i := 189) (by decide +kernel)) rfl
theorem mA_long : Cond.arrayClass .long ∈ zTbl := zin1 (List.mem_of_getElem? (i := 205) (by decide +kernel)) rfl
theorem mMX7_92 : Cond.methodLink RX7 92 yX5_add ∈ zTbl := zin1 (List.mem_of_getElem? (i := 206) (by decide +kernel)) rfl
theorem mI_yX5_add : Cond.instanceMethod yX5_add ∈ zTbl := zin1 (List.mem_of_getElem? (i := 207) (by decide +kernel)) rfl
theorem mV_yX5_add : Cond.selects RX5 yX5_add yX5_add ∈ zTbl := zin1 (List.mem_of_getElem? (i := 208) (by decide +kernel)) rfl
theorem mC_yX5_add : Cond.code yX5_add prog_7_method_5_code 2 (Option.some Jvm.ClassFile.FieldType.int) ∈ zTbl := zin1 (List.mem_of_getElem? (i := 209) (by decide +kernel)) rfl
theorem mMX5_31 : Cond.methodLink RX5 31 yX5_hashOf ∈ zTbl := zin1 (List.mem_of_getElem? (i := 210) (by decide +kernel)) rfl
theorem mI_yX5_hashOf : Cond.instanceMethod yX5_hashOf ∈ zTbl := zin1 (List.mem_of_getElem? (i := 212) (by decide +kernel)) rfl
theorem mC_yX5_hashOf : Cond.code yX5_hashOf prog_7_method_9_code 8 (Option.some Jvm.ClassFile.FieldType.int) ∈ zTbl := zin1 (List.mem_of_getElem? (i := 213) (by decide +kernel)) rfl
theorem mMX5_61 : Cond.methodLink RX5 61 yX5_hashOfNumbered ∈ zTbl := zin1 (List.mem_of_getElem? (i := 214) (by decide +kernel)) rfl
theorem mI_yX5_hashOfNumbered : Cond.instanceMethod yX5_hashOfNumbered ∈ zTbl := zin1 (List.mem_of_getElem? (i := 216) (by decide +kernel)) rfl
theorem mC_yX5_hashOfNumbered : Cond.code yX5_hashOfNumbered prog_7_method_10_code 4 (Option.some Jvm.ClassFile.FieldType.int) ∈ zTbl := zin1 (List.mem_of_getElem? (i := 217) (by decide +kernel)) rfl
theorem mMX5_24 : Cond.methodLink RX5 24 yX5_find ∈ zTbl := zin1 (List.mem_of_getElem? (i := 218) (by decide +kernel)) rfl
theorem mI_yX5_find : Cond.instanceMethod yX5_find ∈ zTbl := zin1 (List.mem_of_getElem? (i := 219) (by decide +kernel)) rfl
theorem mV_yX5_find : Cond.selects RX5 yX5_find yX5_find ∈ zTbl := zin1 (List.mem_of_getElem? (i := 220) (by decide +kernel)) rfl
theorem mC_yX5_find : Cond.code yX5_find prog_7_method_3_code 3 (Option.some (Jvm.ClassFile.FieldType.object "KindRows$Figure")) ∈ zTbl := zin1 (List.mem_of_getElem? (i := 221) (by decide +kernel)) rfl
theorem mMX5_38 : Cond.methodLink RX5 38 yX5_rank ∈ zTbl := zin1 (List.mem_of_getElem? (i := 222) (by decide +kernel)) rfl
theorem mI_yX5_rank : Cond.instanceMethod yX5_rank ∈ zTbl := zin1 (List.mem_of_getElem? (i := 224) (by decide +kernel)) rfl
theorem mC_yX5_rank : Cond.code yX5_rank prog_7_method_11_code 5 (Option.none : Option Jvm.ClassFile.FieldType) ∈ zTbl := zin1 (List.mem_of_getElem? (i := 225) (by decide +kernel)) rfl
theorem mMX5_65 : Cond.methodLink RX5 65 yX5_compare ∈ zTbl := zin1 (List.mem_of_getElem? (i := 226) (by decide +kernel)) rfl
theorem mI_yX5_compare : Cond.instanceMethod yX5_compare ∈ zTbl := zin1 (List.mem_of_getElem? (i := 228) (by decide +kernel)) rfl
theorem mC_yX5_compare : Cond.code yX5_compare prog_7_method_12_code 4 (Option.some Jvm.ClassFile.FieldType.int) ∈ zTbl := zin1 (List.mem_of_getElem? (i := 229) (by decide +kernel)) rfl
theorem mMX5_72 : Cond.methodLink RX5 72 yJ6_compare_7cf53 ∈ zTbl := zin1 (List.mem_of_getElem? (i := 230) (by decide +kernel)) rfl
theorem mS_yJ6_compare_7cf53 : Cond.static yJ6_compare_7cf53 ∈ zTbl := zin1 (List.mem_of_getElem? (i := 231) (by decide +kernel)) rfl
theorem mC_yJ6_compare_7cf53 : Cond.code yJ6_compare_7cf53 prog_11_method_40_code 2 (Option.some Jvm.ClassFile.FieldType.int) ∈ zTbl := zin1 (List.mem_of_getElem? (i := 232) (by decide +kernel)) rfl
theorem mMX5_77 : Cond.methodLink RX5 77 yX5_compareFrom ∈ zTbl := zin1 (List.mem_of_getElem? (i := 233) (by decide +kernel)) rfl
theorem mI_yX5_compareFrom : Cond.instanceMethod yX5_compareFrom ∈ zTbl := zin1 (List.mem_of_getElem? (i := 235) (by decide +kernel)) rfl
theorem mC_yX5_compareFrom : Cond.code yX5_compareFrom prog_7_method_14_code 7 (Option.some Jvm.ClassFile.FieldType.int) ∈ zTbl := zin1 (List.mem_of_getElem? (i := 236) (by decide +kernel)) rfl
theorem mMX5_89 : Cond.methodLink RX5 89 Lib.Math.min.name ∈ zTbl := zin1 (List.mem_of_getElem? (i := 237) (by decide +kernel)) rfl
theorem mS_yMin : Cond.static Lib.Math.min.name ∈ zTbl := zin1 (List.mem_of_getElem? (i := 238) (by decide +kernel)) rfl
theorem mC_yMin : Cond.code Lib.Math.min.name prog_13_method_69_code 2 (Option.some Jvm.ClassFile.FieldType.int) ∈ zTbl := zin1 (List.mem_of_getElem? (i := 239) (by decide +kernel)) rfl
theorem mMX5_94 : Cond.methodLink RX5 94 yX5_sortKey ∈ zTbl := zin2 (List.mem_of_getElem? (i := 0) (by decide +kernel)) rfl
theorem mI_yX5_sortKey : Cond.instanceMethod yX5_sortKey ∈ zTbl := zin2 (List.mem_of_getElem? (i := 2) (by decide +kernel)) rfl
theorem mC_yX5_sortKey : Cond.code yX5_sortKey prog_7_method_15_code 5 (Option.some Jvm.ClassFile.FieldType.long) ∈ zTbl := zin2 (List.mem_of_getElem? (i := 3) (by decide +kernel)) rfl
theorem mKX5_98 : Cond.constantLong RX5 98 (9223372036854775807) ∈ zTbl := zin2 (List.mem_of_getElem? (i := 4) (by decide +kernel)) rfl
theorem mKX5_100 : Cond.constantLong RX5 100 (-1) ∈ zTbl := zin2 (List.mem_of_getElem? (i := 5) (by decide +kernel)) rfl
theorem mMX5_84 : Cond.methodLink RX5 84 yJ13_compare_74951 ∈ zTbl := zin2 (List.mem_of_getElem? (i := 6) (by decide +kernel)) rfl
theorem mS_yJ13_compare_74951 : Cond.static yJ13_compare_74951 ∈ zTbl := zin2 (List.mem_of_getElem? (i := 7) (by decide +kernel)) rfl
theorem mC_yJ13_compare_74951 : Cond.code yJ13_compare_74951 prog_12_method_42_code 4 (Option.some Jvm.ClassFile.FieldType.int) ∈ zTbl := zin2 (List.mem_of_getElem? (i := 8) (by decide +kernel)) rfl
theorem mMX5_81 : Cond.methodLink RX5 81 yX5_compareAtK ∈ zTbl := zin2 (List.mem_of_getElem? (i := 9) (by decide +kernel)) rfl
theorem mS_yX5_compareAtK : Cond.static yX5_compareAtK ∈ zTbl := zin2 (List.mem_of_getElem? (i := 10) (by decide +kernel)) rfl
theorem mC_yX5_compareAtK : Cond.code yX5_compareAtK prog_7_method_13_code 3 (Option.some Jvm.ClassFile.FieldType.int) ∈ zTbl := zin2 (List.mem_of_getElem? (i := 11) (by decide +kernel)) rfl
theorem mML_34 : Cond.methodLink RL 34 yX7_span ∈ zTbl := zin2 (List.mem_of_getElem? (i := 12) (by decide +kernel)) rfl
theorem mI_yX7_span : Cond.instanceMethod yX7_span ∈ zTbl := zin2 (List.mem_of_getElem? (i := 13) (by decide +kernel)) rfl
theorem mV_yX7_span : Cond.selects RX7 yX7_span yX7_span ∈ zTbl := zin2 (List.mem_of_getElem? (i := 14) (by decide +kernel)) rfl
theorem mC_yX7_span : Cond.code yX7_span prog_1_method_6_code 3 (Option.some Jvm.ClassFile.FieldType.int) ∈ zTbl := zin2 (List.mem_of_getElem? (i := 15) (by decide +kernel)) rfl
theorem mMX7_96 : Cond.methodLink RX7 96 yX2_own ∈ zTbl := zin2 (List.mem_of_getElem? (i := 16) (by decide +kernel)) rfl
theorem mI_yX2_own : Cond.instanceMethod yX2_own ∈ zTbl := zin2 (List.mem_of_getElem? (i := 17) (by decide +kernel)) rfl
theorem mV_yX2_own : Cond.selects RX2 yX2_own yX2_own ∈ zTbl := zin2 (List.mem_of_getElem? (i := 18) (by decide +kernel)) rfl
theorem mC_yX2_own : Cond.code yX2_own prog_4_method_3_code 3 (Option.some Jvm.ClassFile.FieldType.int) ∈ zTbl := zin2 (List.mem_of_getElem? (i := 19) (by decide +kernel)) rfl
theorem mMX2_25 : Cond.methodLink RX2 25 yX2_inPart ∈ zTbl := zin2 (List.mem_of_getElem? (i := 20) (by decide +kernel)) rfl
theorem mI_yX2_inPart : Cond.instanceMethod yX2_inPart ∈ zTbl := zin2 (List.mem_of_getElem? (i := 21) (by decide +kernel)) rfl
theorem mV_yX2_inPart : Cond.selects RX2 yX2_inPart yX2_inPart ∈ zTbl := zin2 (List.mem_of_getElem? (i := 22) (by decide +kernel)) rfl
theorem mC_yX2_inPart : Cond.code yX2_inPart prog_4_method_5_code 3 (Option.some Jvm.ClassFile.FieldType.int) ∈ zTbl := zin2 (List.mem_of_getElem? (i := 23) (by decide +kernel)) rfl
theorem mMX7_100 : Cond.methodLink RX7 100 yX7_lengthOf ∈ zTbl := zin2 (List.mem_of_getElem? (i := 24) (by decide +kernel)) rfl
theorem mS_yX7_lengthOf : Cond.static yX7_lengthOf ∈ zTbl := zin2 (List.mem_of_getElem? (i := 25) (by decide +kernel)) rfl
theorem mC_yX7_lengthOf : Cond.code yX7_lengthOf prog_1_method_37_code 2 (Option.some Jvm.ClassFile.FieldType.long) ∈ zTbl := zin2 (List.mem_of_getElem? (i := 26) (by decide +kernel)) rfl
theorem mML_39 : Cond.methodLink RL 39 yX7_wide ∈ zTbl := zin2 (List.mem_of_getElem? (i := 27) (by decide +kernel)) rfl
theorem mI_yX7_wide : Cond.instanceMethod yX7_wide ∈ zTbl := zin2 (List.mem_of_getElem? (i := 28) (by decide +kernel)) rfl
theorem mV_yX7_wide : Cond.selects RX7 yX7_wide yX7_wide ∈ zTbl := zin2 (List.mem_of_getElem? (i := 29) (by decide +kernel)) rfl
theorem mC_yX7_wide : Cond.code yX7_wide prog_1_method_7_code 6 (Option.some Jvm.ClassFile.FieldType.int) ∈ zTbl := zin2 (List.mem_of_getElem? (i := 30) (by decide +kernel)) rfl
theorem mMX7_104 : Cond.methodLink RX7 104 yX2_inPart ∈ zTbl := zin2 (List.mem_of_getElem? (i := 31) (by decide +kernel)) rfl
theorem mMX7_107 : Cond.methodLink RX7 107 Lib.MathLoose.abs_long.x ∈ zTbl := zin2 (List.mem_of_getElem? (i := 32) (by decide +kernel)) rfl
theorem mS_yAbs : Cond.static Lib.MathLoose.abs_long.x ∈ zTbl := zin2 (List.mem_of_getElem? (i := 33) (by decide +kernel)) rfl
theorem mC_yAbs : Cond.code Lib.MathLoose.abs_long.x prog_13_method_61_code 2 (Option.some Jvm.ClassFile.FieldType.long) ∈ zTbl := zin2 (List.mem_of_getElem? (i := 34) (by decide +kernel)) rfl
theorem mML_44 : Cond.methodLink RL 44 yX7_share ∈ zTbl := zin2 (List.mem_of_getElem? (i := 35) (by decide +kernel)) rfl
theorem mI_yX7_share : Cond.instanceMethod yX7_share ∈ zTbl := zin2 (List.mem_of_getElem? (i := 36) (by decide +kernel)) rfl
theorem mV_yX7_share : Cond.selects RX7 yX7_share yX7_share ∈ zTbl := zin2 (List.mem_of_getElem? (i := 37) (by decide +kernel)) rfl
theorem mC_yX7_share : Cond.code yX7_share prog_1_method_8_code 7 (Option.some Jvm.ClassFile.FieldType.int) ∈ zTbl := zin2 (List.mem_of_getElem? (i := 38) (by decide +kernel)) rfl
theorem mML_48 : Cond.methodLink RL 48 yX7_pair ∈ zTbl := zin2 (List.mem_of_getElem? (i := 39) (by decide +kernel)) rfl
theorem mI_yX7_pair : Cond.instanceMethod yX7_pair ∈ zTbl := zin2 (List.mem_of_getElem? (i := 40) (by decide +kernel)) rfl
theorem mV_yX7_pair : Cond.selects RX7 yX7_pair yX7_pair ∈ zTbl := zin2 (List.mem_of_getElem? (i := 41) (by decide +kernel)) rfl
theorem mC_yX7_pair : Cond.code yX7_pair prog_1_method_9_code 3 (Option.some Jvm.ClassFile.FieldType.int) ∈ zTbl := zin2 (List.mem_of_getElem? (i := 42) (by decide +kernel)) rfl
theorem mMX7_112 : Cond.methodLink RX7 112 yX5_hasOrNone ∈ zTbl := zin2 (List.mem_of_getElem? (i := 43) (by decide +kernel)) rfl
theorem mI_yX5_hasOrNone : Cond.instanceMethod yX5_hasOrNone ∈ zTbl := zin2 (List.mem_of_getElem? (i := 44) (by decide +kernel)) rfl
theorem mV_yX5_hasOrNone : Cond.selects RX5 yX5_hasOrNone yX5_hasOrNone ∈ zTbl := zin2 (List.mem_of_getElem? (i := 45) (by decide +kernel)) rfl
theorem mC_yX5_hasOrNone : Cond.code yX5_hasOrNone prog_7_method_4_code 2 (Option.some Jvm.ClassFile.FieldType.boolean) ∈ zTbl := zin2 (List.mem_of_getElem? (i := 46) (by decide +kernel)) rfl
theorem mML_52 : Cond.methodLink RL 52 yX7_row ∈ zTbl := zin2 (List.mem_of_getElem? (i := 47) (by decide +kernel)) rfl
theorem mI_yX7_row : Cond.instanceMethod yX7_row ∈ zTbl := zin2 (List.mem_of_getElem? (i := 48) (by decide +kernel)) rfl
theorem mV_yX7_row : Cond.selects RX7 yX7_row yX7_row ∈ zTbl := zin2 (List.mem_of_getElem? (i := 49) (by decide +kernel)) rfl
theorem mC_yX7_row : Cond.code yX7_row prog_1_method_10_code 4 (Option.some Jvm.ClassFile.FieldType.int) ∈ zTbl := zin2 (List.mem_of_getElem? (i := 50) (by decide +kernel)) rfl
theorem mMX7_116 : Cond.methodLink RX7 116 yX7_numberAt ∈ zTbl := zin2 (List.mem_of_getElem? (i := 51) (by decide +kernel)) rfl
theorem mI_yX7_numberAt : Cond.instanceMethod yX7_numberAt ∈ zTbl := zin2 (List.mem_of_getElem? (i := 53) (by decide +kernel)) rfl
theorem mC_yX7_numberAt : Cond.code yX7_numberAt prog_1_method_38_code 2 (Option.some Jvm.ClassFile.FieldType.int) ∈ zTbl := zin2 (List.mem_of_getElem? (i := 54) (by decide +kernel)) rfl
theorem mMX7_120 : Cond.methodLink RX7 120 yX7_rowParts ∈ zTbl := zin2 (List.mem_of_getElem? (i := 55) (by decide +kernel)) rfl
theorem mI_yX7_rowParts : Cond.instanceMethod yX7_rowParts ∈ zTbl := zin2 (List.mem_of_getElem? (i := 57) (by decide +kernel)) rfl
theorem mC_yX7_rowParts : Cond.code yX7_rowParts prog_1_method_39_code 6 (Option.some (Jvm.ClassFile.FieldType.array Jvm.ClassFile.FieldType.long)) ∈ zTbl := zin2 (List.mem_of_getElem? (i := 58) (by decide +kernel)) rfl
theorem mML_56 : Cond.methodLink RL 56 yX7_shelf ∈ zTbl := zin2 (List.mem_of_getElem? (i := 59) (by decide +kernel)) rfl
theorem mI_yX7_shelf : Cond.instanceMethod yX7_shelf ∈ zTbl := zin2 (List.mem_of_getElem? (i := 60) (by decide +kernel)) rfl
theorem mV_yX7_shelf : Cond.selects RX7 yX7_shelf yX7_shelf ∈ zTbl := zin2 (List.mem_of_getElem? (i := 61) (by decide +kernel)) rfl
theorem mC_yX7_shelf : Cond.code yX7_shelf prog_1_method_11_code 5 (Option.some Jvm.ClassFile.FieldType.int) ∈ zTbl := zin2 (List.mem_of_getElem? (i := 62) (by decide +kernel)) rfl
theorem mKX7_124 : Cond.constantLong RX7 124 (-1) ∈ zTbl := zin2 (List.mem_of_getElem? (i := 63) (by decide +kernel)) rfl
theorem mML_61 : Cond.methodLink RL 61 yX7_set ∈ zTbl := zin2 (List.mem_of_getElem? (i := 64) (by decide +kernel)) rfl
theorem mI_yX7_set : Cond.instanceMethod yX7_set ∈ zTbl := zin2 (List.mem_of_getElem? (i := 65) (by decide +kernel)) rfl
theorem mV_yX7_set : Cond.selects RX7 yX7_set yX7_set ∈ zTbl := zin2 (List.mem_of_getElem? (i := 66) (by decide +kernel)) rfl
theorem mC_yX7_set : Cond.code yX7_set prog_1_method_12_code 6 (Option.some Jvm.ClassFile.FieldType.int) ∈ zTbl := zin2 (List.mem_of_getElem? (i := 67) (by decide +kernel)) rfl
theorem mMX7_130 : Cond.methodLink RX7 130 yX5_find ∈ zTbl := zin2 (List.mem_of_getElem? (i := 68) (by decide +kernel)) rfl
theorem mMX7_137 : Cond.methodLink RX7 137 yX4_isOf ∈ zTbl := zin2 (List.mem_of_getElem? (i := 69) (by decide +kernel)) rfl
theorem mI_yX4_isOf : Cond.instanceMethod yX4_isOf ∈ zTbl := zin2 (List.mem_of_getElem? (i := 70) (by decide +kernel)) rfl
theorem mV_yX4_isOf : Cond.selects RX4 yX4_isOf yX4_isOf ∈ zTbl := zin2 (List.mem_of_getElem? (i := 71) (by decide +kernel)) rfl
theorem mC_yX4_isOf : Cond.code yX4_isOf prog_6_method_2_code 2 (Option.some Jvm.ClassFile.FieldType.boolean) ∈ zTbl := zin2 (List.mem_of_getElem? (i := 72) (by decide +kernel)) rfl
theorem mMX7_140 : Cond.methodLink RX7 140 yX2_inNoPart ∈ zTbl := zin2 (List.mem_of_getElem? (i := 73) (by decide +kernel)) rfl
theorem mI_yX2_inNoPart : Cond.instanceMethod yX2_inNoPart ∈ zTbl := zin2 (List.mem_of_getElem? (i := 74) (by decide +kernel)) rfl
theorem mV_yX2_inNoPart : Cond.selects RX2 yX2_inNoPart yX2_inNoPart ∈ zTbl := zin2 (List.mem_of_getElem? (i := 75) (by decide +kernel)) rfl
theorem mC_yX2_inNoPart : Cond.code yX2_inNoPart prog_4_method_4_code 2 (Option.some Jvm.ClassFile.FieldType.int) ∈ zTbl := zin2 (List.mem_of_getElem? (i := 76) (by decide +kernel)) rfl
theorem mMX7_143 : Cond.methodLink RX7 143 yX4_hasPlace ∈ zTbl := zin2 (List.mem_of_getElem? (i := 77) (by decide +kernel)) rfl
theorem mI_yX4_hasPlace : Cond.instanceMethod yX4_hasPlace ∈ zTbl := zin2 (List.mem_of_getElem? (i := 78) (by decide +kernel)) rfl
theorem mV_yX4_hasPlace : Cond.selects RX4 yX4_hasPlace yX4_hasPlace ∈ zTbl := zin2 (List.mem_of_getElem? (i := 79) (by decide +kernel)) rfl
theorem mC_yX4_hasPlace : Cond.code yX4_hasPlace prog_6_method_4_code 2 (Option.some Jvm.ClassFile.FieldType.boolean) ∈ zTbl := zin2 (List.mem_of_getElem? (i := 80) (by decide +kernel)) rfl
theorem mMX7_146 : Cond.methodLink RX7 146 yX4_hold ∈ zTbl := zin2 (List.mem_of_getElem? (i := 81) (by decide +kernel)) rfl
theorem mI_yX4_hold : Cond.instanceMethod yX4_hold ∈ zTbl := zin2 (List.mem_of_getElem? (i := 82) (by decide +kernel)) rfl
theorem mV_yX4_hold : Cond.selects RX4 yX4_hold yX4_hold ∈ zTbl := zin2 (List.mem_of_getElem? (i := 83) (by decide +kernel)) rfl
theorem mC_yX4_hold : Cond.code yX4_hold prog_6_method_5_code 3 (Option.none : Option Jvm.ClassFile.FieldType) ∈ zTbl := zin2 (List.mem_of_getElem? (i := 84) (by decide +kernel)) rfl
theorem mKX4_36 : Cond.constantLong RX4 36 (-1) ∈ zTbl := zin2 (List.mem_of_getElem? (i := 85) (by decide +kernel)) rfl
theorem mML_65 : Cond.methodLink RL 65 yX7_at ∈ zTbl := zin2 (List.mem_of_getElem? (i := 86) (by decide +kernel)) rfl
theorem mI_yX7_at : Cond.instanceMethod yX7_at ∈ zTbl := zin2 (List.mem_of_getElem? (i := 87) (by decide +kernel)) rfl
theorem mV_yX7_at : Cond.selects RX7 yX7_at yX7_at ∈ zTbl := zin2 (List.mem_of_getElem? (i := 88) (by decide +kernel)) rfl
theorem mC_yX7_at : Cond.code yX7_at prog_1_method_13_code 4 (Option.some Jvm.ClassFile.FieldType.int) ∈ zTbl := zin2 (List.mem_of_getElem? (i := 89) (by decide +kernel)) rfl
theorem mML_69 : Cond.methodLink RL 69 yX7_kind ∈ zTbl := zin2 (List.mem_of_getElem? (i := 90) (by decide +kernel)) rfl
theorem mI_yX7_kind : Cond.instanceMethod yX7_kind ∈ zTbl := zin2 (List.mem_of_getElem? (i := 91) (by decide +kernel)) rfl
theorem mV_yX7_kind : Cond.selects RX7 yX7_kind yX7_kind ∈ zTbl := zin2 (List.mem_of_getElem? (i := 92) (by decide +kernel)) rfl
theorem mC_yX7_kind : Cond.code yX7_kind prog_1_method_14_code 3 (Option.some Jvm.ClassFile.FieldType.int) ∈ zTbl := zin2 (List.mem_of_getElem? (i := 93) (by decide +kernel)) rfl
theorem mML_73 : Cond.methodLink RL 73 yX7_parts ∈ zTbl := zin2 (List.mem_of_getElem? (i := 94) (by decide +kernel)) rfl
theorem mI_yX7_parts : Cond.instanceMethod yX7_parts ∈ zTbl := zin2 (List.mem_of_getElem? (i := 95) (by decide +kernel)) rfl
theorem mV_yX7_parts : Cond.selects RX7 yX7_parts yX7_parts ∈ zTbl := zin2 (List.mem_of_getElem? (i := 96) (by decide +kernel)) rfl
theorem mC_yX7_parts : Cond.code yX7_parts prog_1_method_15_code 3 (Option.some Jvm.ClassFile.FieldType.int) ∈ zTbl := zin2 (List.mem_of_getElem? (i := 97) (by decide +kernel)) rfl
theorem mML_77 : Cond.methodLink RL 77 yX7_part ∈ zTbl := zin2 (List.mem_of_getElem? (i := 98) (by decide +kernel)) rfl
theorem mI_yX7_part : Cond.instanceMethod yX7_part ∈ zTbl := zin2 (List.mem_of_getElem? (i := 99) (by decide +kernel)) rfl
theorem mV_yX7_part : Cond.selects RX7 yX7_part yX7_part ∈ zTbl := zin2 (List.mem_of_getElem? (i := 100) (by decide +kernel)) rfl
theorem mC_yX7_part : Cond.code yX7_part prog_1_method_16_code 4 (Option.some Jvm.ClassFile.FieldType.long) ∈ zTbl := zin2 (List.mem_of_getElem? (i := 101) (by decide +kernel)) rfl
theorem mKX7_154 : Cond.constantLong RX7 154 (-3000000000000000000) ∈ zTbl := zin2 (List.mem_of_getElem? (i := 102) (by decide +kernel)) rfl
theorem mML_82 : Cond.methodLink RL 82 yX7_weight ∈ zTbl := zin2 (List.mem_of_getElem? (i := 103) (by decide +kernel)) rfl
theorem mI_yX7_weight : Cond.instanceMethod yX7_weight ∈ zTbl := zin2 (List.mem_of_getElem? (i := 104) (by decide +kernel)) rfl
theorem mV_yX7_weight : Cond.selects RX7 yX7_weight yX7_weight ∈ zTbl := zin2 (List.mem_of_getElem? (i := 105) (by decide +kernel)) rfl
theorem mC_yX7_weight : Cond.code yX7_weight prog_1_method_17_code 4 (Option.some Jvm.ClassFile.FieldType.long) ∈ zTbl := zin2 (List.mem_of_getElem? (i := 106) (by decide +kernel)) rfl
theorem mMX7_156 : Cond.methodLink RX7 156 yX5_weighPairs ∈ zTbl := zin2 (List.mem_of_getElem? (i := 107) (by decide +kernel)) rfl
theorem mI_yX5_weighPairs : Cond.instanceMethod yX5_weighPairs ∈ zTbl := zin2 (List.mem_of_getElem? (i := 108) (by decide +kernel)) rfl
theorem mV_yX5_weighPairs : Cond.selects RX5 yX5_weighPairs yX5_weighPairs ∈ zTbl := zin2 (List.mem_of_getElem? (i := 109) (by decide +kernel)) rfl
theorem mC_yX5_weighPairs : Cond.code yX5_weighPairs prog_7_method_6_code 5 (Option.none : Option Jvm.ClassFile.FieldType) ∈ zTbl := zin2 (List.mem_of_getElem? (i := 110) (by decide +kernel)) rfl
theorem mMX5_49 : Cond.methodLink RX5 49 yX4_heavyWeight ∈ zTbl := zin2 (List.mem_of_getElem? (i := 111) (by decide +kernel)) rfl
theorem mI_yX4_heavyWeight : Cond.instanceMethod yX4_heavyWeight ∈ zTbl := zin2 (List.mem_of_getElem? (i := 112) (by decide +kernel)) rfl
theorem mV_yX4_heavyWeight : Cond.selects RX4 yX4_heavyWeight yX4_heavyWeight ∈ zTbl := zin2 (List.mem_of_getElem? (i := 113) (by decide +kernel)) rfl
theorem mC_yX4_heavyWeight : Cond.code yX4_heavyWeight prog_6_method_6_code 3 (Option.some Jvm.ClassFile.FieldType.long) ∈ zTbl := zin2 (List.mem_of_getElem? (i := 114) (by decide +kernel)) rfl
theorem mKX4_38 : Cond.constantLong RX4 38 (2) ∈ zTbl := zin2 (List.mem_of_getElem? (i := 115) (by decide +kernel)) rfl
theorem mMX4_40 : Cond.methodLink RX4 40 yX4_isOf ∈ zTbl := zin2 (List.mem_of_getElem? (i := 116) (by decide +kernel)) rfl
theorem mKX4_44 : Cond.constantLong RX4 44 (3) ∈ zTbl := zin2 (List.mem_of_getElem? (i := 117) (by decide +kernel)) rfl
theorem mMX7_159 : Cond.methodLink RX7 159 yX4_heavyWeight ∈ zTbl := zin2 (List.mem_of_getElem? (i := 118) (by decide +kernel)) rfl
theorem mML_87 : Cond.methodLink RL 87 yX7_equal ∈ zTbl := zin2 (List.mem_of_getElem? (i := 119) (by decide +kernel)) rfl
theorem mI_yX7_equal : Cond.instanceMethod yX7_equal ∈ zTbl := zin2 (List.mem_of_getElem? (i := 120) (by decide +kernel)) rfl
theorem mV_yX7_equal : Cond.selects RX7 yX7_equal yX7_equal ∈ zTbl := zin2 (List.mem_of_getElem? (i := 121) (by decide +kernel)) rfl
theorem mC_yX7_equal : Cond.code yX7_equal prog_1_method_18_code 5 (Option.some Jvm.ClassFile.FieldType.int) ∈ zTbl := zin2 (List.mem_of_getElem? (i := 122) (by decide +kernel)) rfl
theorem mMX7_166 : Cond.methodLink RX7 166 yX4_isLike ∈ zTbl := zin2 (List.mem_of_getElem? (i := 123) (by decide +kernel)) rfl
theorem mI_yX4_isLike : Cond.instanceMethod yX4_isLike ∈ zTbl := zin2 (List.mem_of_getElem? (i := 124) (by decide +kernel)) rfl
theorem mV_yX4_isLike : Cond.selects RX4 yX4_isLike yX4_isLike ∈ zTbl := zin2 (List.mem_of_getElem? (i := 125) (by decide +kernel)) rfl
theorem mC_yX4_isLike : Cond.code yX4_isLike prog_6_method_3_code 2 (Option.some Jvm.ClassFile.FieldType.boolean) ∈ zTbl := zin2 (List.mem_of_getElem? (i := 126) (by decide +kernel)) rfl
theorem mML_91 : Cond.methodLink RL 91 yX7_hash ∈ zTbl := zin2 (List.mem_of_getElem? (i := 127) (by decide +kernel)) rfl
theorem mI_yX7_hash : Cond.instanceMethod yX7_hash ∈ zTbl := zin2 (List.mem_of_getElem? (i := 128) (by decide +kernel)) rfl
theorem mV_yX7_hash : Cond.selects RX7 yX7_hash yX7_hash ∈ zTbl := zin2 (List.mem_of_getElem? (i := 129) (by decide +kernel)) rfl
theorem mC_yX7_hash : Cond.code yX7_hash prog_1_method_19_code 3 (Option.some Jvm.ClassFile.FieldType.int) ∈ zTbl := zin2 (List.mem_of_getElem? (i := 130) (by decide +kernel)) rfl
theorem mML_95 : Cond.methodLink RL 95 yX7_order ∈ zTbl := zin2 (List.mem_of_getElem? (i := 131) (by decide +kernel)) rfl
theorem mI_yX7_order : Cond.instanceMethod yX7_order ∈ zTbl := zin2 (List.mem_of_getElem? (i := 132) (by decide +kernel)) rfl
theorem mV_yX7_order : Cond.selects RX7 yX7_order yX7_order ∈ zTbl := zin2 (List.mem_of_getElem? (i := 133) (by decide +kernel)) rfl
theorem mC_yX7_order : Cond.code yX7_order prog_1_method_20_code 5 (Option.some Jvm.ClassFile.FieldType.int) ∈ zTbl := zin2 (List.mem_of_getElem? (i := 134) (by decide +kernel)) rfl
theorem mMX7_176 : Cond.methodLink RX7 176 yJ6_compare_7cf53 ∈ zTbl := zin2 (List.mem_of_getElem? (i := 135) (by decide +kernel)) rfl
theorem mML_99 : Cond.methodLink RL 99 yX7_ranked ∈ zTbl := zin2 (List.mem_of_getElem? (i := 136) (by decide +kernel)) rfl
theorem mI_yX7_ranked : Cond.instanceMethod yX7_ranked ∈ zTbl := zin2 (List.mem_of_getElem? (i := 137) (by decide +kernel)) rfl
theorem mV_yX7_ranked : Cond.selects RX7 yX7_ranked yX7_ranked ∈ zTbl := zin2 (List.mem_of_getElem? (i := 138) (by decide +kernel)) rfl
theorem mC_yX7_ranked : Cond.code yX7_ranked prog_1_method_21_code 2 (Option.some Jvm.ClassFile.FieldType.int) ∈ zTbl := zin2 (List.mem_of_getElem? (i := 139) (by decide +kernel)) rfl
theorem mMX7_181 : Cond.methodLink RX7 181 yX5_numberRanked ∈ zTbl := zin2 (List.mem_of_getElem? (i := 140) (by decide +kernel)) rfl
theorem mI_yX5_numberRanked : Cond.instanceMethod yX5_numberRanked ∈ zTbl := zin2 (List.mem_of_getElem? (i := 141) (by decide +kernel)) rfl
theorem mV_yX5_numberRanked : Cond.selects RX5 yX5_numberRanked yX5_numberRanked ∈ zTbl := zin2 (List.mem_of_getElem? (i := 142) (by decide +kernel)) rfl
theorem mC_yX5_numberRanked : Cond.code yX5_numberRanked prog_7_method_7_code 2 (Option.some Jvm.ClassFile.FieldType.int) ∈ zTbl := zin2 (List.mem_of_getElem? (i := 143) (by decide +kernel)) rfl
theorem mML_103 : Cond.methodLink RL 103 yX7_first ∈ zTbl := zin2 (List.mem_of_getElem? (i := 144) (by decide +kernel)) rfl
theorem mI_yX7_first : Cond.instanceMethod yX7_first ∈ zTbl := zin2 (List.mem_of_getElem? (i := 145) (by decide +kernel)) rfl
theorem mV_yX7_first : Cond.selects RX7 yX7_first yX7_first ∈ zTbl := zin2 (List.mem_of_getElem? (i := 146) (by decide +kernel)) rfl
theorem mC_yX7_first : Cond.code yX7_first prog_1_method_22_code 3 (Option.some Jvm.ClassFile.FieldType.int) ∈ zTbl := zin2 (List.mem_of_getElem? (i := 147) (by decide +kernel)) rfl
theorem mMX7_184 : Cond.methodLink RX7 184 yX5_firstLike ∈ zTbl := zin2 (List.mem_of_getElem? (i := 148) (by decide +kernel)) rfl
theorem mI_yX5_firstLike : Cond.instanceMethod yX5_firstLike ∈ zTbl := zin2 (List.mem_of_getElem? (i := 149) (by decide +kernel)) rfl
theorem mV_yX5_firstLike : Cond.selects RX5 yX5_firstLike yX5_firstLike ∈ zTbl := zin2 (List.mem_of_getElem? (i := 150) (by decide +kernel)) rfl
theorem mC_yX5_firstLike : Cond.code yX5_firstLike prog_7_method_8_code 3 (Option.some Jvm.ClassFile.FieldType.int) ∈ zTbl := zin2 (List.mem_of_getElem? (i := 151) (by decide +kernel)) rfl
theorem mMX5_57 : Cond.methodLink RX5 57 yX4_isLike ∈ zTbl := zin2 (List.mem_of_getElem? (i := 152) (by decide +kernel)) rfl
theorem mML_107 : Cond.methodLink RL 107 yX7_family ∈ zTbl := zin2 (List.mem_of_getElem? (i := 153) (by decide +kernel)) rfl
theorem mI_yX7_family : Cond.instanceMethod yX7_family ∈ zTbl := zin2 (List.mem_of_getElem? (i := 154) (by decide +kernel)) rfl
theorem mV_yX7_family : Cond.selects RX7 yX7_family yX7_family ∈ zTbl := zin2 (List.mem_of_getElem? (i := 155) (by decide +kernel)) rfl
theorem mC_yX7_family : Cond.code yX7_family prog_1_method_23_code 6 (Option.some Jvm.ClassFile.FieldType.int) ∈ zTbl := zin2 (List.mem_of_getElem? (i := 156) (by decide +kernel)) rfl
theorem mMX7_187 : Cond.methodLink RX7 187 yX7_areKindsOnce ∈ zTbl := zin2 (List.mem_of_getElem? (i := 157) (by decide +kernel)) rfl
theorem mS_yX7_areKindsOnce : Cond.static yX7_areKindsOnce ∈ zTbl := zin2 (List.mem_of_getElem? (i := 158) (by decide +kernel)) rfl
theorem mC_yX7_areKindsOnce : Cond.code yX7_areKindsOnce prog_1_method_40_code 6 (Option.some Jvm.ClassFile.FieldType.boolean) ∈ zTbl := zin2 (List.mem_of_getElem? (i := 159) (by decide +kernel)) rfl
theorem mIa_RX3 : Cond.instantiable RX3 2 ∈ zTbl := zin2 (List.mem_of_getElem? (i := 160) (by decide +kernel)) rfl
theorem mMX7_191 : Cond.methodLink RX7 191 yX3_init ∈ zTbl := zin2 (List.mem_of_getElem? (i := 161) (by decide +kernel)) rfl
theorem mI_yX3_init : Cond.instanceMethod yX3_init ∈ zTbl := zin2 (List.mem_of_getElem? (i := 162) (by decide +kernel)) rfl
theorem mC_yX3_init : Cond.code yX3_init prog_5_method_1_code 3 (Option.none : Option Jvm.ClassFile.FieldType) ∈ zTbl := zin2 (List.mem_of_getElem? (i := 163) (by decide +kernel)) rfl
theorem mMX3_3 : Cond.methodLink RX3 3 Lib.objectInit ∈ zTbl := zin2 (List.mem_of_getElem? (i := 164) (by decide +kernel)) rfl
theorem mFX3_11 : Cond.fieldLink RX3 11 (TX3 0).1 (TX3 0).2.1 (TX3 0).2.2.1 ∈ zTbl := zin2 (List.mem_of_getElem? (i := 165) (by decide +kernel)) rfl
theorem mFX3_15 : Cond.fieldLink RX3 15 (TX3 1).1 (TX3 1).2.1 (TX3 1).2.2.1 ∈ zTbl := zin2 (List.mem_of_getElem? (i := 166) (by decide +kernel)) rfl
theorem mML_112 : Cond.methodLink RL 112 yX7_tag ∈ zTbl := zin2 (List.mem_of_getElem? (i := 172) (by decide +kernel)) rfl
theorem mI_yX7_tag : Cond.instanceMethod yX7_tag ∈ zTbl := zin2 (List.mem_of_getElem? (i := 173) (by decide +kernel)) rfl
theorem mV_yX7_tag : Cond.selects RX7 yX7_tag yX7_tag ∈ zTbl := zin2 (List.mem_of_getElem? (i := 174) (by decide +kernel)) rfl
theorem mC_yX7_tag : Cond.code yX7_tag prog_1_method_24_code 5 (Option.some Jvm.ClassFile.FieldType.int) ∈ zTbl := zin2 (List.mem_of_getElem? (i := 175) (by decide +kernel)) rfl
theorem mMX7_194 : Cond.methodLink RX7 194 yX7_findFamily ∈ zTbl := zin2 (List.mem_of_getElem? (i := 176) (by decide +kernel)) rfl
theorem mI_yX7_findFamily : Cond.instanceMethod yX7_findFamily ∈ zTbl := zin2 (List.mem_of_getElem? (i := 178) (by decide +kernel)) rfl
theorem mC_yX7_findFamily : Cond.code yX7_findFamily prog_1_method_41_code 2 (Option.some (Jvm.ClassFile.FieldType.object "KindRows$Family")) ∈ zTbl := zin2 (List.mem_of_getElem? (i := 179) (by decide +kernel)) rfl
theorem mMX7_198 : Cond.methodLink RX7 198 yX3_tagOf ∈ zTbl := zin2 (List.mem_of_getElem? (i := 180) (by decide +kernel)) rfl
theorem mI_yX3_tagOf : Cond.instanceMethod yX3_tagOf ∈ zTbl := zin2 (List.mem_of_getElem? (i := 181) (by decide +kernel)) rfl
theorem mV_yX3_tagOf : Cond.selects RX3 yX3_tagOf yX3_tagOf ∈ zTbl := zin2 (List.mem_of_getElem? (i := 182) (by decide +kernel)) rfl
theorem mC_yX3_tagOf : Cond.code yX3_tagOf prog_5_method_2_code 4 (Option.some Jvm.ClassFile.FieldType.int) ∈ zTbl := zin2 (List.mem_of_getElem? (i := 183) (by decide +kernel)) rfl
theorem mMX3_24 : Cond.methodLink RX3 24 yX4_isOf ∈ zTbl := zin2 (List.mem_of_getElem? (i := 184) (by decide +kernel)) rfl
theorem mML_116 : Cond.methodLink RL 116 yX7_tagged ∈ zTbl := zin2 (List.mem_of_getElem? (i := 185) (by decide +kernel)) rfl
theorem mI_yX7_tagged : Cond.instanceMethod yX7_tagged ∈ zTbl := zin2 (List.mem_of_getElem? (i := 186) (by decide +kernel)) rfl
theorem mV_yX7_tagged : Cond.selects RX7 yX7_tagged yX7_tagged ∈ zTbl := zin2 (List.mem_of_getElem? (i := 187) (by decide +kernel)) rfl
theorem mC_yX7_tagged : Cond.code yX7_tagged prog_1_method_25_code 7 (Option.some Jvm.ClassFile.FieldType.int) ∈ zTbl := zin2 (List.mem_of_getElem? (i := 188) (by decide +kernel)) rfl
theorem mML_120 : Cond.methodLink RL 120 yX7_constant ∈ zTbl := zin2 (List.mem_of_getElem? (i := 189) (by decide +kernel)) rfl
theorem mI_yX7_constant : Cond.instanceMethod yX7_constant ∈ zTbl := zin2 (List.mem_of_getElem? (i := 190) (by decide +kernel)) rfl
theorem mV_yX7_constant : Cond.selects RX7 yX7_constant yX7_constant ∈ zTbl := zin2 (List.mem_of_getElem? (i := 191) (by decide +kernel)) rfl
theorem mC_yX7_constant : Cond.code yX7_constant prog_1_method_26_code 5 (Option.some Jvm.ClassFile.FieldType.int) ∈ zTbl := zin2 (List.mem_of_getElem? (i := 192) (by decide +kernel)) rfl
theorem mMX7_204 : Cond.methodLink RX7 204 yX7_findEnumeration ∈ zTbl := zin2 (List.mem_of_getElem? (i := 193) (by decide +kernel)) rfl
theorem mI_yX7_findEnumeration : Cond.instanceMethod yX7_findEnumeration ∈ zTbl := zin2 (List.mem_of_getElem? (i := 195) (by decide +kernel)) rfl
theorem mC_yX7_findEnumeration : Cond.code yX7_findEnumeration prog_1_method_43_code 2 (Option.some (Jvm.ClassFile.FieldType.object "KindRows$Enumeration")) ∈ zTbl := zin2 (List.mem_of_getElem? (i := 196) (by decide +kernel)) rfl
theorem mMX7_208 : Cond.methodLink RX7 208 yX7_memberNamed ∈ zTbl := zin2 (List.mem_of_getElem? (i := 197) (by decide +kernel)) rfl
theorem mI_yX7_memberNamed : Cond.instanceMethod yX7_memberNamed ∈ zTbl := zin2 (List.mem_of_getElem? (i := 199) (by decide +kernel)) rfl
theorem mC_yX7_memberNamed : Cond.code yX7_memberNamed prog_1_method_45_code 5 (Option.some Jvm.ClassFile.FieldType.int) ∈ zTbl := zin2 (List.mem_of_getElem? (i := 200) (by decide +kernel)) rfl
theorem mMX7_238 : Cond.methodLink RX7 238 yX7_findConstant ∈ zTbl := zin2 (List.mem_of_getElem? (i := 201) (by decide +kernel)) rfl
theorem mI_yX7_findConstant : Cond.instanceMethod yX7_findConstant ∈ zTbl := zin2 (List.mem_of_getElem? (i := 203) (by decide +kernel)) rfl
theorem mC_yX7_findConstant : Cond.code yX7_findConstant prog_1_method_42_code 2 (Option.some (Jvm.ClassFile.FieldType.object "KindRows$Constant")) ∈ zTbl := zin2 (List.mem_of_getElem? (i := 204) (by decide +kernel)) rfl
theorem mIa_RX0 : Cond.instantiable RX0 2 ∈ zTbl := zin2 (List.mem_of_getElem? (i := 205) (by decide +kernel)) rfl
theorem mMX7_212 : Cond.methodLink RX7 212 yX0_init ∈ zTbl := zin2 (List.mem_of_getElem? (i := 206) (by decide +kernel)) rfl
theorem mI_yX0_init : Cond.instanceMethod yX0_init ∈ zTbl := zin2 (List.mem_of_getElem? (i := 207) (by decide +kernel)) rfl
theorem mC_yX0_init : Cond.code yX0_init prog_2_method_1_code 3 (Option.none : Option Jvm.ClassFile.FieldType) ∈ zTbl := zin2 (List.mem_of_getElem? (i := 208) (by decide +kernel)) rfl
theorem mMX0_1 : Cond.methodLink RX0 1 Lib.objectInit ∈ zTbl := zin2 (List.mem_of_getElem? (i := 209) (by decide +kernel)) rfl
theorem mFX0_7 : Cond.fieldLink RX0 7 (TX0 0).1 (TX0 0).2.1 (TX0 0).2.2.1 ∈ zTbl := zin2 (List.mem_of_getElem? (i := 210) (by decide +kernel)) rfl
theorem mFNX7_242 : Cond.fieldLinkNest RX7 242 (TX0 0).1 (TX0 0).2.1 (TX0 0).2.2.1 "KindRows" ∈ zTbl := zin2 (List.mem_of_getElem? (i := 211) (by decide +kernel)) rfl
theorem mFX0_13 : Cond.fieldLink RX0 13 (TX0 1).1 (TX0 1).2.1 (TX0 1).2.2.1 ∈ zTbl := zin2 (List.mem_of_getElem? (i := 212) (by decide +kernel)) rfl
theorem mFNX7_245 : Cond.fieldLinkNest RX7 245 (TX0 1).1 (TX0 1).2.1 (TX0 1).2.2.1 "KindRows" ∈ zTbl := zin2 (List.mem_of_getElem? (i := 213) (by decide +kernel)) rfl
theorem mMX7_214 : Cond.methodLink RX7 214 yX1_append ∈ zTbl := zin2 (List.mem_of_getElem? (i := 219) (by decide +kernel)) rfl
theorem mI_yX1_append : Cond.instanceMethod yX1_append ∈ zTbl := zin2 (List.mem_of_getElem? (i := 220) (by decide +kernel)) rfl
theorem mV_yX1_append : Cond.selects RX1 yX1_append yX1_append ∈ zTbl := zin2 (List.mem_of_getElem? (i := 221) (by decide +kernel)) rfl
theorem mC_yX1_append : Cond.code yX1_append prog_3_method_2_code 2 (Option.none : Option Jvm.ClassFile.FieldType) ∈ zTbl := zin2 (List.mem_of_getElem? (i := 222) (by decide +kernel)) rfl
theorem mML_124 : Cond.methodLink RL 124 yX7_named ∈ zTbl := zin2 (List.mem_of_getElem? (i := 223) (by decide +kernel)) rfl
theorem mI_yX7_named : Cond.instanceMethod yX7_named ∈ zTbl := zin2 (List.mem_of_getElem? (i := 224) (by decide +kernel)) rfl
theorem mV_yX7_named : Cond.selects RX7 yX7_named yX7_named ∈ zTbl := zin2 (List.mem_of_getElem? (i := 225) (by decide +kernel)) rfl
theorem mC_yX7_named : Cond.code yX7_named prog_1_method_27_code 5 (Option.some Jvm.ClassFile.FieldType.int) ∈ zTbl := zin2 (List.mem_of_getElem? (i := 226) (by decide +kernel)) rfl
theorem mML_128 : Cond.methodLink RL 128 yX7_drop ∈ zTbl := zin2 (List.mem_of_getElem? (i := 227) (by decide +kernel)) rfl
theorem mI_yX7_drop : Cond.instanceMethod yX7_drop ∈ zTbl := zin2 (List.mem_of_getElem? (i := 228) (by decide +kernel)) rfl
theorem mV_yX7_drop : Cond.selects RX7 yX7_drop yX7_drop ∈ zTbl := zin2 (List.mem_of_getElem? (i := 229) (by decide +kernel)) rfl
theorem mC_yX7_drop : Cond.code yX7_drop prog_1_method_28_code 4 (Option.some Jvm.ClassFile.FieldType.int) ∈ zTbl := zin2 (List.mem_of_getElem? (i := 230) (by decide +kernel)) rfl
theorem mMX7_218 : Cond.methodLink RX7 218 yX7_homeOf ∈ zTbl := zin2 (List.mem_of_getElem? (i := 231) (by decide +kernel)) rfl
theorem mI_yX7_homeOf : Cond.instanceMethod yX7_homeOf ∈ zTbl := zin2 (List.mem_of_getElem? (i := 233) (by decide +kernel)) rfl
theorem mC_yX7_homeOf : Cond.code yX7_homeOf prog_1_method_44_code 3 (Option.some (Jvm.ClassFile.FieldType.object "KindRows$Enumeration")) ∈ zTbl := zin2 (List.mem_of_getElem? (i := 234) (by decide +kernel)) rfl
theorem mMX7_221 : Cond.methodLink RX7 221 yX1_placeOf ∈ zTbl := zin2 (List.mem_of_getElem? (i := 235) (by decide +kernel)) rfl
theorem mI_yX1_placeOf : Cond.instanceMethod yX1_placeOf ∈ zTbl := zin2 (List.mem_of_getElem? (i := 236) (by decide +kernel)) rfl
theorem mV_yX1_placeOf : Cond.selects RX1 yX1_placeOf yX1_placeOf ∈ zTbl := zin2 (List.mem_of_getElem? (i := 237) (by decide +kernel)) rfl
theorem mC_yX1_placeOf : Cond.code yX1_placeOf prog_3_method_4_code 3 (Option.some Jvm.ClassFile.FieldType.int) ∈ zTbl := zin2 (List.mem_of_getElem? (i := 238) (by decide +kernel)) rfl
theorem mMX7_224 : Cond.methodLink RX7 224 yX1_remove ∈ zTbl := zin2 (List.mem_of_getElem? (i := 239) (by decide +kernel)) rfl
theorem mI_yX1_remove : Cond.instanceMethod yX1_remove ∈ zTbl := zin3 (List.mem_of_getElem? (i := 0) (by decide +kernel)) rfl
theorem mV_yX1_remove : Cond.selects RX1 yX1_remove yX1_remove ∈ zTbl := zin3 (List.mem_of_getElem? (i := 1) (by decide +kernel)) rfl
theorem mC_yX1_remove : Cond.code yX1_remove prog_3_method_3_code 3 (Option.none : Option Jvm.ClassFile.FieldType) ∈ zTbl := zin3 (List.mem_of_getElem? (i := 2) (by decide +kernel)) rfl
theorem mML_132 : Cond.methodLink RL 132 yX7_reorder ∈ zTbl := zin3 (List.mem_of_getElem? (i := 3) (by decide +kernel)) rfl
theorem mI_yX7_reorder : Cond.instanceMethod yX7_reorder ∈ zTbl := zin3 (List.mem_of_getElem? (i := 4) (by decide +kernel)) rfl
theorem mV_yX7_reorder : Cond.selects RX7 yX7_reorder yX7_reorder ∈ zTbl := zin3 (List.mem_of_getElem? (i := 5) (by decide +kernel)) rfl
theorem mC_yX7_reorder : Cond.code yX7_reorder prog_1_method_29_code 4 (Option.some Jvm.ClassFile.FieldType.int) ∈ zTbl := zin3 (List.mem_of_getElem? (i := 6) (by decide +kernel)) rfl
theorem mMX7_230 : Cond.methodLink RX7 230 yX7_drawBelow ∈ zTbl := zin3 (List.mem_of_getElem? (i := 7) (by decide +kernel)) rfl
theorem mI_yX7_drawBelow : Cond.instanceMethod yX7_drawBelow ∈ zTbl := zin3 (List.mem_of_getElem? (i := 9) (by decide +kernel)) rfl
theorem mC_yX7_drawBelow : Cond.code yX7_drawBelow prog_1_method_47_code 2 (Option.some Jvm.ClassFile.FieldType.int) ∈ zTbl := zin3 (List.mem_of_getElem? (i := 10) (by decide +kernel)) rfl
theorem mKX7_275 : Cond.constantLong RX7 275 (48271) ∈ zTbl := zin3 (List.mem_of_getElem? (i := 11) (by decide +kernel)) rfl
theorem mKX7_236 : Cond.constantLong RX7 236 (2147483647) ∈ zTbl := zin3 (List.mem_of_getElem? (i := 12) (by decide +kernel)) rfl
theorem mMX7_233 : Cond.methodLink RX7 233 yX1_exchange ∈ zTbl := zin3 (List.mem_of_getElem? (i := 13) (by decide +kernel)) rfl
theorem mI_yX1_exchange : Cond.instanceMethod yX1_exchange ∈ zTbl := zin3 (List.mem_of_getElem? (i := 14) (by decide +kernel)) rfl
theorem mV_yX1_exchange : Cond.selects RX1 yX1_exchange yX1_exchange ∈ zTbl := zin3 (List.mem_of_getElem? (i := 15) (by decide +kernel)) rfl
theorem mC_yX1_exchange : Cond.code yX1_exchange prog_3_method_5_code 4 (Option.none : Option Jvm.ClassFile.FieldType) ∈ zTbl := zin3 (List.mem_of_getElem? (i := 16) (by decide +kernel)) rfl
theorem mML_136 : Cond.methodLink RL 136 yX7_seed ∈ zTbl := zin3 (List.mem_of_getElem? (i := 17) (by decide +kernel)) rfl
theorem mI_yX7_seed : Cond.instanceMethod yX7_seed ∈ zTbl := zin3 (List.mem_of_getElem? (i := 18) (by decide +kernel)) rfl
theorem mV_yX7_seed : Cond.selects RX7 yX7_seed yX7_seed ∈ zTbl := zin3 (List.mem_of_getElem? (i := 19) (by decide +kernel)) rfl
theorem mC_yX7_seed : Cond.code yX7_seed prog_1_method_30_code 3 (Option.some Jvm.ClassFile.FieldType.int) ∈ zTbl := zin3 (List.mem_of_getElem? (i := 20) (by decide +kernel)) rfl
theorem mML_140 : Cond.methodLink RL 140 yX7_told ∈ zTbl := zin3 (List.mem_of_getElem? (i := 21) (by decide +kernel)) rfl
theorem mI_yX7_told : Cond.instanceMethod yX7_told ∈ zTbl := zin3 (List.mem_of_getElem? (i := 22) (by decide +kernel)) rfl
theorem mV_yX7_told : Cond.selects RX7 yX7_told yX7_told ∈ zTbl := zin3 (List.mem_of_getElem? (i := 23) (by decide +kernel)) rfl
theorem mC_yX7_told : Cond.code yX7_told prog_1_method_31_code 5 (Option.some Jvm.ClassFile.FieldType.int) ∈ zTbl := zin3 (List.mem_of_getElem? (i := 24) (by decide +kernel)) rfl
theorem mML_144 : Cond.methodLink RL 144 yX7_placed ∈ zTbl := zin3 (List.mem_of_getElem? (i := 25) (by decide +kernel)) rfl
theorem mI_yX7_placed : Cond.instanceMethod yX7_placed ∈ zTbl := zin3 (List.mem_of_getElem? (i := 26) (by decide +kernel)) rfl
theorem mV_yX7_placed : Cond.selects RX7 yX7_placed yX7_placed ∈ zTbl := zin3 (List.mem_of_getElem? (i := 27) (by decide +kernel)) rfl
theorem mC_yX7_placed : Cond.code yX7_placed prog_1_method_32_code 4 (Option.some Jvm.ClassFile.FieldType.int) ∈ zTbl := zin3 (List.mem_of_getElem? (i := 28) (by decide +kernel)) rfl
theorem mML_148 : Cond.methodLink RL 148 yX7_put ∈ zTbl := zin3 (List.mem_of_getElem? (i := 29) (by decide +kernel)) rfl
theorem mI_yX7_put : Cond.instanceMethod yX7_put ∈ zTbl := zin3 (List.mem_of_getElem? (i := 30) (by decide +kernel)) rfl
theorem mV_yX7_put : Cond.selects RX7 yX7_put yX7_put ∈ zTbl := zin3 (List.mem_of_getElem? (i := 31) (by decide +kernel)) rfl
theorem mC_yX7_put : Cond.code yX7_put prog_1_method_33_code 4 (Option.some Jvm.ClassFile.FieldType.int) ∈ zTbl := zin3 (List.mem_of_getElem? (i := 32) (by decide +kernel)) rfl
theorem mMX7_251 : Cond.methodLink RX7 251 yX7_keyOf ∈ zTbl := zin3 (List.mem_of_getElem? (i := 33) (by decide +kernel)) rfl
theorem mS_yX7_keyOf : Cond.static yX7_keyOf ∈ zTbl := zin3 (List.mem_of_getElem? (i := 34) (by decide +kernel)) rfl
theorem mC_yX7_keyOf : Cond.code yX7_keyOf prog_1_method_48_code 1 (Option.some Jvm.ClassFile.FieldType.int) ∈ zTbl := zin3 (List.mem_of_getElem? (i := 35) (by decide +kernel)) rfl
theorem mMX7_255 : Cond.methodLink RX7 255 yX6_store ∈ zTbl := zin3 (List.mem_of_getElem? (i := 36) (by decide +kernel)) rfl
theorem mI_yX6_store : Cond.instanceMethod yX6_store ∈ zTbl := zin3 (List.mem_of_getElem? (i := 37) (by decide +kernel)) rfl
theorem mV_yX6_store : Cond.selects RX6 yX6_store yX6_store ∈ zTbl := zin3 (List.mem_of_getElem? (i := 38) (by decide +kernel)) rfl
theorem mC_yX6_store : Cond.code yX6_store prog_8_method_2_code 4 (Option.some Jvm.ClassFile.FieldType.int) ∈ zTbl := zin3 (List.mem_of_getElem? (i := 39) (by decide +kernel)) rfl
theorem mMX6_22 : Cond.methodLink RX6 22 yX6_placeOf ∈ zTbl := zin3 (List.mem_of_getElem? (i := 40) (by decide +kernel)) rfl
theorem mI_yX6_placeOf : Cond.instanceMethod yX6_placeOf ∈ zTbl := zin3 (List.mem_of_getElem? (i := 42) (by decide +kernel)) rfl
theorem mC_yX6_placeOf : Cond.code yX6_placeOf prog_8_method_4_code 3 (Option.some Jvm.ClassFile.FieldType.int) ∈ zTbl := zin3 (List.mem_of_getElem? (i := 43) (by decide +kernel)) rfl
theorem mML_152 : Cond.methodLink RL 152 yX7_get ∈ zTbl := zin3 (List.mem_of_getElem? (i := 44) (by decide +kernel)) rfl
theorem mI_yX7_get : Cond.instanceMethod yX7_get ∈ zTbl := zin3 (List.mem_of_getElem? (i := 45) (by decide +kernel)) rfl
theorem mV_yX7_get : Cond.selects RX7 yX7_get yX7_get ∈ zTbl := zin3 (List.mem_of_getElem? (i := 46) (by decide +kernel)) rfl
theorem mC_yX7_get : Cond.code yX7_get prog_1_method_34_code 3 (Option.some Jvm.ClassFile.FieldType.int) ∈ zTbl := zin3 (List.mem_of_getElem? (i := 47) (by decide +kernel)) rfl
theorem mMX7_258 : Cond.methodLink RX7 258 yX6_valueOf ∈ zTbl := zin3 (List.mem_of_getElem? (i := 48) (by decide +kernel)) rfl
theorem mI_yX6_valueOf : Cond.instanceMethod yX6_valueOf ∈ zTbl := zin3 (List.mem_of_getElem? (i := 49) (by decide +kernel)) rfl
theorem mV_yX6_valueOf : Cond.selects RX6 yX6_valueOf yX6_valueOf ∈ zTbl := zin3 (List.mem_of_getElem? (i := 50) (by decide +kernel)) rfl
theorem mC_yX6_valueOf : Cond.code yX6_valueOf prog_8_method_3_code 3 (Option.some Jvm.ClassFile.FieldType.int) ∈ zTbl := zin3 (List.mem_of_getElem? (i := 51) (by decide +kernel)) rfl
theorem mML_156 : Cond.methodLink RL 156 yX7_count ∈ zTbl := zin3 (List.mem_of_getElem? (i := 52) (by decide +kernel)) rfl
theorem mI_yX7_count : Cond.instanceMethod yX7_count ∈ zTbl := zin3 (List.mem_of_getElem? (i := 53) (by decide +kernel)) rfl
theorem mV_yX7_count : Cond.selects RX7 yX7_count yX7_count ∈ zTbl := zin3 (List.mem_of_getElem? (i := 54) (by decide +kernel)) rfl
theorem mC_yX7_count : Cond.code yX7_count prog_1_method_35_code 2 (Option.some Jvm.ClassFile.FieldType.int) ∈ zTbl := zin3 (List.mem_of_getElem? (i := 55) (by decide +kernel)) rfl
theorem mMX7_261 : Cond.methodLink RX7 261 yX7_membersOfAll ∈ zTbl := zin3 (List.mem_of_getElem? (i := 56) (by decide +kernel)) rfl
theorem mI_yX7_membersOfAll : Cond.instanceMethod yX7_membersOfAll ∈ zTbl := zin3 (List.mem_of_getElem? (i := 58) (by decide +kernel)) rfl
theorem mC_yX7_membersOfAll : Cond.code yX7_membersOfAll prog_1_method_46_code 6 (Option.some Jvm.ClassFile.FieldType.int) ∈ zTbl := zin3 (List.mem_of_getElem? (i := 59) (by decide +kernel)) rfl
theorem mMX7_266 : Cond.methodLink RX7 266 yX2_everOf ∈ zTbl := zin3 (List.mem_of_getElem? (i := 60) (by decide +kernel)) rfl
theorem mI_yX2_everOf : Cond.instanceMethod yX2_everOf ∈ zTbl := zin3 (List.mem_of_getElem? (i := 61) (by decide +kernel)) rfl
theorem mV_yX2_everOf : Cond.selects RX2 yX2_everOf yX2_everOf ∈ zTbl := zin3 (List.mem_of_getElem? (i := 62) (by decide +kernel)) rfl
theorem mC_yX2_everOf : Cond.code yX2_everOf prog_4_method_6_code 2 (Option.some Jvm.ClassFile.FieldType.int) ∈ zTbl := zin3 (List.mem_of_getElem? (i := 63) (by decide +kernel)) rfl
theorem mLL_10 : Cond.classLink RL 10 RX8 ∈ zTbl := zin3 (List.mem_of_getElem? (i := 64) (by decide +kernel)) rfl
theorem mIa_RX8 : Cond.instantiable RX8 27 ∈ zTbl := zin3 (List.mem_of_getElem? (i := 65) (by decide +kernel)) rfl
theorem mML_12 : Cond.methodLink RL 12 yX8_init ∈ zTbl := zin3 (List.mem_of_getElem? (i := 66) (by decide +kernel)) rfl
theorem mI_yX8_init : Cond.instanceMethod yX8_init ∈ zTbl := zin3 (List.mem_of_getElem? (i := 67) (by decide +kernel)) rfl
theorem mC_yX8_init : Cond.code yX8_init prog_10_method_1_code 1 (Option.none : Option Jvm.ClassFile.FieldType) ∈ zTbl := zin3 (List.mem_of_getElem? (i := 68) (by decide +kernel)) rfl
theorem mMX8_1 : Cond.methodLink RX8 1 Lib.objectInit ∈ zTbl := zin3 (List.mem_of_getElem? (i := 69) (by decide +kernel)) rfl
theorem mFX8_74 : Cond.fieldLink RX8 74 (TX8 0).1 (TX8 0).2.1 (TX8 0).2.2.1 ∈ zTbl := zin3 (List.mem_of_getElem? (i := 70) (by decide +kernel)) rfl
theorem mFX8_9 : Cond.fieldLink RX8 9 (TX8 1).1 (TX8 1).2.1 (TX8 1).2.2.1 ∈ zTbl := zin3 (List.mem_of_getElem? (i := 71) (by decide +kernel)) rfl
theorem mFX8_77 : Cond.fieldLink RX8 77 (TX8 2).1 (TX8 2).2.1 (TX8 2).2.2.1 ∈ zTbl := zin3 (List.mem_of_getElem? (i := 72) (by decide +kernel)) rfl
theorem mFX8_13 : Cond.fieldLink RX8 13 (TX8 3).1 (TX8 3).2.1 (TX8 3).2.2.1 ∈ zTbl := zin3 (List.mem_of_getElem? (i := 73) (by decide +kernel)) rfl
theorem mFX8_80 : Cond.fieldLink RX8 80 (TX8 4).1 (TX8 4).2.1 (TX8 4).2.2.1 ∈ zTbl := zin3 (List.mem_of_getElem? (i := 74) (by decide +kernel)) rfl
theorem mFX8_17 : Cond.fieldLink RX8 17 (TX8 5).1 (TX8 5).2.1 (TX8 5).2.2.1 ∈ zTbl := zin3 (List.mem_of_getElem? (i := 75) (by decide +kernel)) rfl
theorem mFX8_83 : Cond.fieldLink RX8 83 (TX8 6).1 (TX8 6).2.1 (TX8 6).2.2.1 ∈ zTbl := zin3 (List.mem_of_getElem? (i := 76) (by decide +kernel)) rfl
theorem mFX8_20 : Cond.fieldLink RX8 20 (TX8 7).1 (TX8 7).2.1 (TX8 7).2.2.1 ∈ zTbl := zin3 (List.mem_of_getElem? (i := 77) (by decide +kernel)) rfl
theorem mFX8_23 : Cond.fieldLink RX8 23 (TX8 8).1 (TX8 8).2.1 (TX8 8).2.2.1 ∈ zTbl := zin3 (List.mem_of_getElem? (i := 78) (by decide +kernel)) rfl
theorem mFX8_26 : Cond.fieldLink RX8 26 (TX8 9).1 (TX8 9).2.1 (TX8 9).2.2.1 ∈ zTbl := zin3 (List.mem_of_getElem? (i := 79) (by decide +kernel)) rfl
theorem mFX8_30 : Cond.fieldLink RX8 30 (TX8 10).1 (TX8 10).2.1 (TX8 10).2.2.1 ∈ zTbl := zin3 (List.mem_of_getElem? (i := 80) (by decide +kernel)) rfl
theorem mFX8_34 : Cond.fieldLink RX8 34 (TX8 11).1 (TX8 11).2.1 (TX8 11).2.2.1 ∈ zTbl := zin3 (List.mem_of_getElem? (i := 81) (by decide +kernel)) rfl
theorem mFX8_37 : Cond.fieldLink RX8 37 (TX8 12).1 (TX8 12).2.1 (TX8 12).2.2.1 ∈ zTbl := zin3 (List.mem_of_getElem? (i := 82) (by decide +kernel)) rfl
theorem mFX8_40 : Cond.fieldLink RX8 40 (TX8 13).1 (TX8 13).2.1 (TX8 13).2.2.1 ∈ zTbl := zin3 (List.mem_of_getElem? (i := 83) (by decide +kernel)) rfl
theorem mFX8_187 : Cond.fieldLink RX8 187 (TX8 14).1 (TX8 14).2.1 (TX8 14).2.2.1 ∈ zTbl := zin3 (List.mem_of_getElem? (i := 84) (by decide +kernel)) rfl
theorem mFX8_43 : Cond.fieldLink RX8 43 (TX8 15).1 (TX8 15).2.1 (TX8 15).2.2.1 ∈ zTbl := zin3 (List.mem_of_getElem? (i := 85) (by decide +kernel)) rfl
theorem mFX8_46 : Cond.fieldLink RX8 46 (TX8 16).1 (TX8 16).2.1 (TX8 16).2.2.1 ∈ zTbl := zin3 (List.mem_of_getElem? (i := 86) (by decide +kernel)) rfl
theorem mFX8_193 : Cond.fieldLink RX8 193 (TX8 17).1 (TX8 17).2.1 (TX8 17).2.2.1 ∈ zTbl := zin3 (List.mem_of_getElem? (i := 87) (by decide +kernel)) rfl
theorem mFX8_49 : Cond.fieldLink RX8 49 (TX8 18).1 (TX8 18).2.1 (TX8 18).2.2.1 ∈ zTbl := zin3 (List.mem_of_getElem? (i := 88) (by decide +kernel)) rfl
theorem mFX8_52 : Cond.fieldLink RX8 52 (TX8 19).1 (TX8 19).2.1 (TX8 19).2.2.1 ∈ zTbl := zin3 (List.mem_of_getElem? (i := 89) (by decide +kernel)) rfl
theorem mFX8_55 : Cond.fieldLink RX8 55 (TX8 20).1 (TX8 20).2.1 (TX8 20).2.2.1 ∈ zTbl := zin3 (List.mem_of_getElem? (i := 90) (by decide +kernel)) rfl
theorem mFX8_58 : Cond.fieldLink RX8 58 (TX8 21).1 (TX8 21).2.1 (TX8 21).2.2.1 ∈ zTbl := zin3 (List.mem_of_getElem? (i := 91) (by decide +kernel)) rfl
theorem mFX8_61 : Cond.fieldLink RX8 61 (TX8 22).1 (TX8 22).2.1 (TX8 22).2.2.1 ∈ zTbl := zin3 (List.mem_of_getElem? (i := 92) (by decide +kernel)) rfl
theorem mFX8_213 : Cond.fieldLink RX8 213 (TX8 23).1 (TX8 23).2.1 (TX8 23).2.2.1 ∈ zTbl := zin3 (List.mem_of_getElem? (i := 93) (by decide +kernel)) rfl
theorem mFX8_65 : Cond.fieldLink RX8 65 (TX8 24).1 (TX8 24).2.1 (TX8 24).2.2.1 ∈ zTbl := zin3 (List.mem_of_getElem? (i := 94) (by decide +kernel)) rfl
theorem mFX8_68 : Cond.fieldLink RX8 68 (TX8 25).1 (TX8 25).2.1 (TX8 25).2.2.1 ∈ zTbl := zin3 (List.mem_of_getElem? (i := 95) (by decide +kernel)) rfl
theorem mFX8_71 : Cond.fieldLink RX8 71 (TX8 26).1 (TX8 26).2.1 (TX8 26).2.2.1 ∈ zTbl := zin3 (List.mem_of_getElem? (i := 96) (by decide +kernel)) rfl
theorem mA_boolean : Cond.arrayClass .boolean ∈ zTbl := zin3 (List.mem_of_getElem? (i := 152) (by decide +kernel)) rfl
theorem mML_17 : Cond.methodLink RL 17 yX8_cause ∈ zTbl := zin3 (List.mem_of_getElem? (i := 153) (by decide +kernel)) rfl
theorem mI_yX8_cause : Cond.instanceMethod yX8_cause ∈ zTbl := zin3 (List.mem_of_getElem? (i := 154) (by decide +kernel)) rfl
theorem mV_yX8_cause : Cond.selects RX8 yX8_cause yX8_cause ∈ zTbl := zin3 (List.mem_of_getElem? (i := 155) (by decide +kernel)) rfl
theorem mC_yX8_cause : Cond.code yX8_cause prog_10_method_4_code 2 (Option.some Jvm.ClassFile.FieldType.int) ∈ zTbl := zin3 (List.mem_of_getElem? (i := 156) (by decide +kernel)) rfl
theorem mML_21 : Cond.methodLink RL 21 yX8_lay ∈ zTbl := zin3 (List.mem_of_getElem? (i := 157) (by decide +kernel)) rfl
theorem mI_yX8_lay : Cond.instanceMethod yX8_lay ∈ zTbl := zin3 (List.mem_of_getElem? (i := 158) (by decide +kernel)) rfl
theorem mV_yX8_lay : Cond.selects RX8 yX8_lay yX8_lay ∈ zTbl := zin3 (List.mem_of_getElem? (i := 159) (by decide +kernel)) rfl
theorem mC_yX8_lay : Cond.code yX8_lay prog_10_method_5_code 2 (Option.some Jvm.ClassFile.FieldType.int) ∈ zTbl := zin3 (List.mem_of_getElem? (i := 160) (by decide +kernel)) rfl
theorem mML_26 : Cond.methodLink RL 26 yX8_wipe ∈ zTbl := zin3 (List.mem_of_getElem? (i := 161) (by decide +kernel)) rfl
theorem mI_yX8_wipe : Cond.instanceMethod yX8_wipe ∈ zTbl := zin3 (List.mem_of_getElem? (i := 162) (by decide +kernel)) rfl
theorem mV_yX8_wipe : Cond.selects RX8 yX8_wipe yX8_wipe ∈ zTbl := zin3 (List.mem_of_getElem? (i := 163) (by decide +kernel)) rfl
theorem mC_yX8_wipe : Cond.code yX8_wipe prog_10_method_6_code 2 (Option.some Jvm.ClassFile.FieldType.int) ∈ zTbl := zin3 (List.mem_of_getElem? (i := 164) (by decide +kernel)) rfl
theorem mML_33 : Cond.methodLink RL 33 yX8_point ∈ zTbl := zin3 (List.mem_of_getElem? (i := 165) (by decide +kernel)) rfl
theorem mI_yX8_point : Cond.instanceMethod yX8_point ∈ zTbl := zin3 (List.mem_of_getElem? (i := 166) (by decide +kernel)) rfl
theorem mV_yX8_point : Cond.selects RX8 yX8_point yX8_point ∈ zTbl := zin3 (List.mem_of_getElem? (i := 167) (by decide +kernel)) rfl
theorem mC_yX8_point : Cond.code yX8_point prog_10_method_19_code 5 (Option.some Jvm.ClassFile.FieldType.int) ∈ zTbl := zin3 (List.mem_of_getElem? (i := 168) (by decide +kernel)) rfl
theorem mMX8_116 : Cond.methodLink RX8 116 yX8_begin ∈ zTbl := zin3 (List.mem_of_getElem? (i := 169) (by decide +kernel)) rfl
theorem mI_yX8_begin : Cond.instanceMethod yX8_begin ∈ zTbl := zin3 (List.mem_of_getElem? (i := 171) (by decide +kernel)) rfl
theorem mC_yX8_begin : Cond.code yX8_begin prog_10_method_2_code 1 (Option.none : Option Jvm.ClassFile.FieldType) ∈ zTbl := zin3 (List.mem_of_getElem? (i := 172) (by decide +kernel)) rfl
theorem mMX8_119 : Cond.methodLink RX8 119 yX8_start ∈ zTbl := zin3 (List.mem_of_getElem? (i := 173) (by decide +kernel)) rfl
theorem mI_yX8_start : Cond.instanceMethod yX8_start ∈ zTbl := zin3 (List.mem_of_getElem? (i := 175) (by decide +kernel)) rfl
theorem mC_yX8_start : Cond.code yX8_start prog_10_method_10_code 2 (Option.none : Option Jvm.ClassFile.FieldType) ∈ zTbl := zin3 (List.mem_of_getElem? (i := 176) (by decide +kernel)) rfl
theorem mMX8_123 : Cond.methodLink RX8 123 yX8_clean ∈ zTbl := zin3 (List.mem_of_getElem? (i := 177) (by decide +kernel)) rfl
theorem mS_yX8_clean : Cond.static yX8_clean ∈ zTbl := zin3 (List.mem_of_getElem? (i := 178) (by decide +kernel)) rfl
theorem mC_yX8_clean : Cond.code yX8_clean prog_10_method_18_code 2 (Option.some Jvm.ClassFile.FieldType.long) ∈ zTbl := zin3 (List.mem_of_getElem? (i := 179) (by decide +kernel)) rfl
theorem mKX8_110 : Cond.constantLong RX8 110 (9223372036854775807) ∈ zTbl := zin3 (List.mem_of_getElem? (i := 180) (by decide +kernel)) rfl
theorem mKX8_112 : Cond.constantLong RX8 112 (9218868437227405312) ∈ zTbl := zin3 (List.mem_of_getElem? (i := 181) (by decide +kernel)) rfl
theorem mKX8_114 : Cond.constantLong RX8 114 (9221120237041090560) ∈ zTbl := zin3 (List.mem_of_getElem? (i := 182) (by decide +kernel)) rfl
theorem mMX8_127 : Cond.methodLink RX8 127 yX8_part ∈ zTbl := zin3 (List.mem_of_getElem? (i := 183) (by decide +kernel)) rfl
theorem mI_yX8_part : Cond.instanceMethod yX8_part ∈ zTbl := zin3 (List.mem_of_getElem? (i := 185) (by decide +kernel)) rfl
theorem mC_yX8_part : Cond.code yX8_part prog_10_method_11_code 3 (Option.none : Option Jvm.ClassFile.FieldType) ∈ zTbl := zin3 (List.mem_of_getElem? (i := 186) (by decide +kernel)) rfl
theorem mMX8_131 : Cond.methodLink RX8 131 yX8_made ∈ zTbl := zin3 (List.mem_of_getElem? (i := 187) (by decide +kernel)) rfl
theorem mI_yX8_made : Cond.instanceMethod yX8_made ∈ zTbl := zin3 (List.mem_of_getElem? (i := 189) (by decide +kernel)) rfl
theorem mC_yX8_made : Cond.code yX8_made prog_10_method_17_code 1 (Option.some Jvm.ClassFile.FieldType.int) ∈ zTbl := zin3 (List.mem_of_getElem? (i := 190) (by decide +kernel)) rfl
theorem mMX8_103 : Cond.methodLink RX8 103 yX8_leastLike ∈ zTbl := zin3 (List.mem_of_getElem? (i := 191) (by decide +kernel)) rfl
theorem mI_yX8_leastLike : Cond.instanceMethod yX8_leastLike ∈ zTbl := zin3 (List.mem_of_getElem? (i := 193) (by decide +kernel)) rfl
theorem mC_yX8_leastLike : Cond.code yX8_leastLike prog_10_method_13_code 5 (Option.some Jvm.ClassFile.FieldType.int) ∈ zTbl := zin3 (List.mem_of_getElem? (i := 194) (by decide +kernel)) rfl
theorem mMX8_86 : Cond.methodLink RX8 86 yX8_isFigurePart ∈ zTbl := zin3 (List.mem_of_getElem? (i := 195) (by decide +kernel)) rfl
theorem mI_yX8_isFigurePart : Cond.instanceMethod yX8_isFigurePart ∈ zTbl := zin3 (List.mem_of_getElem? (i := 197) (by decide +kernel)) rfl
theorem mC_yX8_isFigurePart : Cond.code yX8_isFigurePart prog_10_method_12_code 2 (Option.some Jvm.ClassFile.FieldType.boolean) ∈ zTbl := zin3 (List.mem_of_getElem? (i := 198) (by decide +kernel)) rfl
theorem mMX8_90 : Cond.methodLink RX8 90 yX8_cellOf ∈ zTbl := zin3 (List.mem_of_getElem? (i := 199) (by decide +kernel)) rfl
theorem mI_yX8_cellOf : Cond.instanceMethod yX8_cellOf ∈ zTbl := zin3 (List.mem_of_getElem? (i := 201) (by decide +kernel)) rfl
theorem mC_yX8_cellOf : Cond.code yX8_cellOf prog_10_method_9_code 3 (Option.some Jvm.ClassFile.FieldType.long) ∈ zTbl := zin3 (List.mem_of_getElem? (i := 202) (by decide +kernel)) rfl
theorem mMX8_94 : Cond.methodLink RX8 94 yX8_likeOf ∈ zTbl := zin3 (List.mem_of_getElem? (i := 203) (by decide +kernel)) rfl
theorem mI_yX8_likeOf : Cond.instanceMethod yX8_likeOf ∈ zTbl := zin3 (List.mem_of_getElem? (i := 205) (by decide +kernel)) rfl
theorem mC_yX8_likeOf : Cond.code yX8_likeOf prog_10_method_14_code 3 (Option.some Jvm.ClassFile.FieldType.int) ∈ zTbl := zin3 (List.mem_of_getElem? (i := 206) (by decide +kernel)) rfl
theorem mKX8_98 : Cond.constantLong RX8 98 (-1) ∈ zTbl := zin3 (List.mem_of_getElem? (i := 207) (by decide +kernel)) rfl
theorem mMX8_107 : Cond.methodLink RX8 107 yX8_hashOf ∈ zTbl := zin3 (List.mem_of_getElem? (i := 208) (by decide +kernel)) rfl
theorem mI_yX8_hashOf : Cond.instanceMethod yX8_hashOf ∈ zTbl := zin3 (List.mem_of_getElem? (i := 210) (by decide +kernel)) rfl
theorem mC_yX8_hashOf : Cond.code yX8_hashOf prog_10_method_16_code 6 (Option.some Jvm.ClassFile.FieldType.int) ∈ zTbl := zin3 (List.mem_of_getElem? (i := 211) (by decide +kernel)) rfl
theorem mMX8_100 : Cond.methodLink RX8 100 yX8_folded ∈ zTbl := zin3 (List.mem_of_getElem? (i := 212) (by decide +kernel)) rfl
theorem mS_yX8_folded : Cond.static yX8_folded ∈ zTbl := zin3 (List.mem_of_getElem? (i := 213) (by decide +kernel)) rfl
theorem mC_yX8_folded : Cond.code yX8_folded prog_10_method_15_code 2 (Option.some Jvm.ClassFile.FieldType.int) ∈ zTbl := zin3 (List.mem_of_getElem? (i := 214) (by decide +kernel)) rfl
theorem mML_38 : Cond.methodLink RL 38 yX8_span ∈ zTbl := zin3 (List.mem_of_getElem? (i := 215) (by decide +kernel)) rfl
theorem mI_yX8_span : Cond.instanceMethod yX8_span ∈ zTbl := zin3 (List.mem_of_getElem? (i := 216) (by decide +kernel)) rfl
theorem mV_yX8_span : Cond.selects RX8 yX8_span yX8_span ∈ zTbl := zin3 (List.mem_of_getElem? (i := 217) (by decide +kernel)) rfl
theorem mC_yX8_span : Cond.code yX8_span prog_10_method_20_code 3 (Option.some Jvm.ClassFile.FieldType.int) ∈ zTbl := zin3 (List.mem_of_getElem? (i := 218) (by decide +kernel)) rfl
theorem mMX8_135 : Cond.methodLink RX8 135 yX8_fails ∈ zTbl := zin3 (List.mem_of_getElem? (i := 219) (by decide +kernel)) rfl
theorem mI_yX8_fails : Cond.instanceMethod yX8_fails ∈ zTbl := zin3 (List.mem_of_getElem? (i := 221) (by decide +kernel)) rfl
theorem mC_yX8_fails : Cond.code yX8_fails prog_10_method_3_code 4 (Option.some Jvm.ClassFile.FieldType.int) ∈ zTbl := zin3 (List.mem_of_getElem? (i := 222) (by decide +kernel)) rfl
theorem mML_43 : Cond.methodLink RL 43 yX8_wide ∈ zTbl := zin3 (List.mem_of_getElem? (i := 223) (by decide +kernel)) rfl
theorem mI_yX8_wide : Cond.instanceMethod yX8_wide ∈ zTbl := zin3 (List.mem_of_getElem? (i := 224) (by decide +kernel)) rfl
theorem mV_yX8_wide : Cond.selects RX8 yX8_wide yX8_wide ∈ zTbl := zin3 (List.mem_of_getElem? (i := 225) (by decide +kernel)) rfl
theorem mC_yX8_wide : Cond.code yX8_wide prog_10_method_21_code 4 (Option.some Jvm.ClassFile.FieldType.int) ∈ zTbl := zin3 (List.mem_of_getElem? (i := 226) (by decide +kernel)) rfl
theorem mML_47 : Cond.methodLink RL 47 yX8_share ∈ zTbl := zin3 (List.mem_of_getElem? (i := 227) (by decide +kernel)) rfl
theorem mI_yX8_share : Cond.instanceMethod yX8_share ∈ zTbl := zin3 (List.mem_of_getElem? (i := 228) (by decide +kernel)) rfl
theorem mV_yX8_share : Cond.selects RX8 yX8_share yX8_share ∈ zTbl := zin3 (List.mem_of_getElem? (i := 229) (by decide +kernel)) rfl
theorem mC_yX8_share : Cond.code yX8_share prog_10_method_22_code 5 (Option.some Jvm.ClassFile.FieldType.int) ∈ zTbl := zin3 (List.mem_of_getElem? (i := 230) (by decide +kernel)) rfl
theorem mML_51 : Cond.methodLink RL 51 yX8_pair ∈ zTbl := zin3 (List.mem_of_getElem? (i := 231) (by decide +kernel)) rfl
theorem mI_yX8_pair : Cond.instanceMethod yX8_pair ∈ zTbl := zin3 (List.mem_of_getElem? (i := 232) (by decide +kernel)) rfl
theorem mV_yX8_pair : Cond.selects RX8 yX8_pair yX8_pair ∈ zTbl := zin3 (List.mem_of_getElem? (i := 233) (by decide +kernel)) rfl
theorem mC_yX8_pair : Cond.code yX8_pair prog_10_method_23_code 3 (Option.some Jvm.ClassFile.FieldType.int) ∈ zTbl := zin3 (List.mem_of_getElem? (i := 234) (by decide +kernel)) rfl
theorem mMX8_139 : Cond.methodLink RX8 139 yX8_isFigure ∈ zTbl := zin3 (List.mem_of_getElem? (i := 235) (by decide +kernel)) rfl
theorem mI_yX8_isFigure : Cond.instanceMethod yX8_isFigure ∈ zTbl := zin3 (List.mem_of_getElem? (i := 237) (by decide +kernel)) rfl
theorem mC_yX8_isFigure : Cond.code yX8_isFigure prog_10_method_7_code 2 (Option.some Jvm.ClassFile.FieldType.boolean) ∈ zTbl := zin3 (List.mem_of_getElem? (i := 238) (by decide +kernel)) rfl
theorem mML_55 : Cond.methodLink RL 55 yX8_row ∈ zTbl := zin3 (List.mem_of_getElem? (i := 239) (by decide +kernel)) rfl
theorem mI_yX8_row : Cond.instanceMethod yX8_row ∈ zTbl := zin4 (List.mem_of_getElem? (i := 0) (by decide +kernel)) rfl
theorem mV_yX8_row : Cond.selects RX8 yX8_row yX8_row ∈ zTbl := zin4 (List.mem_of_getElem? (i := 1) (by decide +kernel)) rfl
theorem mC_yX8_row : Cond.code yX8_row prog_10_method_25_code 4 (Option.some Jvm.ClassFile.FieldType.int) ∈ zTbl := zin4 (List.mem_of_getElem? (i := 2) (by decide +kernel)) rfl
theorem mMX8_142 : Cond.methodLink RX8 142 yX8_laid ∈ zTbl := zin4 (List.mem_of_getElem? (i := 3) (by decide +kernel)) rfl
theorem mI_yX8_laid : Cond.instanceMethod yX8_laid ∈ zTbl := zin4 (List.mem_of_getElem? (i := 5) (by decide +kernel)) rfl
theorem mC_yX8_laid : Cond.code yX8_laid prog_10_method_24_code 2 (Option.some Jvm.ClassFile.FieldType.int) ∈ zTbl := zin4 (List.mem_of_getElem? (i := 6) (by decide +kernel)) rfl
theorem mML_60 : Cond.methodLink RL 60 yX8_shelf ∈ zTbl := zin4 (List.mem_of_getElem? (i := 7) (by decide +kernel)) rfl
theorem mI_yX8_shelf : Cond.instanceMethod yX8_shelf ∈ zTbl := zin4 (List.mem_of_getElem? (i := 8) (by decide +kernel)) rfl
theorem mV_yX8_shelf : Cond.selects RX8 yX8_shelf yX8_shelf ∈ zTbl := zin4 (List.mem_of_getElem? (i := 9) (by decide +kernel)) rfl
theorem mC_yX8_shelf : Cond.code yX8_shelf prog_10_method_26_code 4 (Option.some Jvm.ClassFile.FieldType.int) ∈ zTbl := zin4 (List.mem_of_getElem? (i := 10) (by decide +kernel)) rfl
theorem mML_64 : Cond.methodLink RL 64 yX8_set ∈ zTbl := zin4 (List.mem_of_getElem? (i := 11) (by decide +kernel)) rfl
theorem mI_yX8_set : Cond.instanceMethod yX8_set ∈ zTbl := zin4 (List.mem_of_getElem? (i := 12) (by decide +kernel)) rfl
theorem mV_yX8_set : Cond.selects RX8 yX8_set yX8_set ∈ zTbl := zin4 (List.mem_of_getElem? (i := 13) (by decide +kernel)) rfl
theorem mC_yX8_set : Cond.code yX8_set prog_10_method_28_code 4 (Option.some Jvm.ClassFile.FieldType.int) ∈ zTbl := zin4 (List.mem_of_getElem? (i := 14) (by decide +kernel)) rfl
theorem mMX8_145 : Cond.methodLink RX8 145 yX8_hasPlace ∈ zTbl := zin4 (List.mem_of_getElem? (i := 15) (by decide +kernel)) rfl
theorem mI_yX8_hasPlace : Cond.instanceMethod yX8_hasPlace ∈ zTbl := zin4 (List.mem_of_getElem? (i := 17) (by decide +kernel)) rfl
theorem mC_yX8_hasPlace : Cond.code yX8_hasPlace prog_10_method_27_code 3 (Option.some Jvm.ClassFile.FieldType.boolean) ∈ zTbl := zin4 (List.mem_of_getElem? (i := 18) (by decide +kernel)) rfl
theorem mML_68 : Cond.methodLink RL 68 yX8_at_ ∈ zTbl := zin4 (List.mem_of_getElem? (i := 19) (by decide +kernel)) rfl
theorem mI_yX8_at_ : Cond.instanceMethod yX8_at_ ∈ zTbl := zin4 (List.mem_of_getElem? (i := 20) (by decide +kernel)) rfl
theorem mV_yX8_at_ : Cond.selects RX8 yX8_at_ yX8_at_ ∈ zTbl := zin4 (List.mem_of_getElem? (i := 21) (by decide +kernel)) rfl
theorem mC_yX8_at_ : Cond.code yX8_at_ prog_10_method_29_code 3 (Option.some Jvm.ClassFile.FieldType.int) ∈ zTbl := zin4 (List.mem_of_getElem? (i := 22) (by decide +kernel)) rfl
theorem mML_72 : Cond.methodLink RL 72 yX8_kind ∈ zTbl := zin4 (List.mem_of_getElem? (i := 23) (by decide +kernel)) rfl
theorem mI_yX8_kind : Cond.instanceMethod yX8_kind ∈ zTbl := zin4 (List.mem_of_getElem? (i := 24) (by decide +kernel)) rfl
theorem mV_yX8_kind : Cond.selects RX8 yX8_kind yX8_kind ∈ zTbl := zin4 (List.mem_of_getElem? (i := 25) (by decide +kernel)) rfl
theorem mC_yX8_kind : Cond.code yX8_kind prog_10_method_30_code 2 (Option.some Jvm.ClassFile.FieldType.int) ∈ zTbl := zin4 (List.mem_of_getElem? (i := 26) (by decide +kernel)) rfl
theorem mML_76 : Cond.methodLink RL 76 yX8_parts ∈ zTbl := zin4 (List.mem_of_getElem? (i := 27) (by decide +kernel)) rfl
theorem mI_yX8_parts : Cond.instanceMethod yX8_parts ∈ zTbl := zin4 (List.mem_of_getElem? (i := 28) (by decide +kernel)) rfl
theorem mV_yX8_parts : Cond.selects RX8 yX8_parts yX8_parts ∈ zTbl := zin4 (List.mem_of_getElem? (i := 29) (by decide +kernel)) rfl
theorem mC_yX8_parts : Cond.code yX8_parts prog_10_method_31_code 2 (Option.some Jvm.ClassFile.FieldType.int) ∈ zTbl := zin4 (List.mem_of_getElem? (i := 30) (by decide +kernel)) rfl
theorem mML_81 : Cond.methodLink RL 81 yX8_part_ ∈ zTbl := zin4 (List.mem_of_getElem? (i := 31) (by decide +kernel)) rfl
theorem mI_yX8_part_ : Cond.instanceMethod yX8_part_ ∈ zTbl := zin4 (List.mem_of_getElem? (i := 32) (by decide +kernel)) rfl
theorem mV_yX8_part_ : Cond.selects RX8 yX8_part_ yX8_part_ ∈ zTbl := zin4 (List.mem_of_getElem? (i := 33) (by decide +kernel)) rfl
theorem mC_yX8_part_ : Cond.code yX8_part_ prog_10_method_32_code 3 (Option.some Jvm.ClassFile.FieldType.long) ∈ zTbl := zin4 (List.mem_of_getElem? (i := 34) (by decide +kernel)) rfl
theorem mKX8_149 : Cond.constantLong RX8 149 (-3000000000000000000) ∈ zTbl := zin4 (List.mem_of_getElem? (i := 35) (by decide +kernel)) rfl
theorem mMX8_151 : Cond.methodLink RX8 151 yX8_at ∈ zTbl := zin4 (List.mem_of_getElem? (i := 36) (by decide +kernel)) rfl
theorem mI_yX8_at : Cond.instanceMethod yX8_at ∈ zTbl := zin4 (List.mem_of_getElem? (i := 38) (by decide +kernel)) rfl
theorem mC_yX8_at : Cond.code yX8_at prog_10_method_8_code 5 (Option.some Jvm.ClassFile.FieldType.long) ∈ zTbl := zin4 (List.mem_of_getElem? (i := 39) (by decide +kernel)) rfl
theorem mML_86 : Cond.methodLink RL 86 yX8_weight ∈ zTbl := zin4 (List.mem_of_getElem? (i := 40) (by decide +kernel)) rfl
theorem mI_yX8_weight : Cond.instanceMethod yX8_weight ∈ zTbl := zin4 (List.mem_of_getElem? (i := 41) (by decide +kernel)) rfl
theorem mV_yX8_weight : Cond.selects RX8 yX8_weight yX8_weight ∈ zTbl := zin4 (List.mem_of_getElem? (i := 42) (by decide +kernel)) rfl
theorem mC_yX8_weight : Cond.code yX8_weight prog_10_method_35_code 4 (Option.some Jvm.ClassFile.FieldType.long) ∈ zTbl := zin4 (List.mem_of_getElem? (i := 43) (by decide +kernel)) rfl
theorem mMX8_163 : Cond.methodLink RX8 163 yX8_weightOf ∈ zTbl := zin4 (List.mem_of_getElem? (i := 44) (by decide +kernel)) rfl
theorem mI_yX8_weightOf : Cond.instanceMethod yX8_weightOf ∈ zTbl := zin4 (List.mem_of_getElem? (i := 46) (by decide +kernel)) rfl
theorem mC_yX8_weightOf : Cond.code yX8_weightOf prog_10_method_34_code 8 (Option.some Jvm.ClassFile.FieldType.long) ∈ zTbl := zin4 (List.mem_of_getElem? (i := 47) (by decide +kernel)) rfl
theorem mMX8_159 : Cond.methodLink RX8 159 yX8_heavyOf ∈ zTbl := zin4 (List.mem_of_getElem? (i := 48) (by decide +kernel)) rfl
theorem mI_yX8_heavyOf : Cond.instanceMethod yX8_heavyOf ∈ zTbl := zin4 (List.mem_of_getElem? (i := 50) (by decide +kernel)) rfl
theorem mC_yX8_heavyOf : Cond.code yX8_heavyOf prog_10_method_33_code 4 (Option.some Jvm.ClassFile.FieldType.long) ∈ zTbl := zin4 (List.mem_of_getElem? (i := 51) (by decide +kernel)) rfl
theorem mKX8_155 : Cond.constantLong RX8 155 (2) ∈ zTbl := zin4 (List.mem_of_getElem? (i := 52) (by decide +kernel)) rfl
theorem mKX8_157 : Cond.constantLong RX8 157 (3) ∈ zTbl := zin4 (List.mem_of_getElem? (i := 53) (by decide +kernel)) rfl
theorem mML_90 : Cond.methodLink RL 90 yX8_equal ∈ zTbl := zin4 (List.mem_of_getElem? (i := 54) (by decide +kernel)) rfl
theorem mI_yX8_equal : Cond.instanceMethod yX8_equal ∈ zTbl := zin4 (List.mem_of_getElem? (i := 55) (by decide +kernel)) rfl
theorem mV_yX8_equal : Cond.selects RX8 yX8_equal yX8_equal ∈ zTbl := zin4 (List.mem_of_getElem? (i := 56) (by decide +kernel)) rfl
theorem mC_yX8_equal : Cond.code yX8_equal prog_10_method_36_code 3 (Option.some Jvm.ClassFile.FieldType.int) ∈ zTbl := zin4 (List.mem_of_getElem? (i := 57) (by decide +kernel)) rfl
theorem mML_94 : Cond.methodLink RL 94 yX8_hash ∈ zTbl := zin4 (List.mem_of_getElem? (i := 58) (by decide +kernel)) rfl
theorem mI_yX8_hash : Cond.instanceMethod yX8_hash ∈ zTbl := zin4 (List.mem_of_getElem? (i := 59) (by decide +kernel)) rfl
theorem mV_yX8_hash : Cond.selects RX8 yX8_hash yX8_hash ∈ zTbl := zin4 (List.mem_of_getElem? (i := 60) (by decide +kernel)) rfl
theorem mC_yX8_hash : Cond.code yX8_hash prog_10_method_37_code 2 (Option.some Jvm.ClassFile.FieldType.int) ∈ zTbl := zin4 (List.mem_of_getElem? (i := 61) (by decide +kernel)) rfl
theorem mML_106 : Cond.methodLink RL 106 yX8_first ∈ zTbl := zin4 (List.mem_of_getElem? (i := 62) (by decide +kernel)) rfl
theorem mI_yX8_first : Cond.instanceMethod yX8_first ∈ zTbl := zin4 (List.mem_of_getElem? (i := 63) (by decide +kernel)) rfl
theorem mV_yX8_first : Cond.selects RX8 yX8_first yX8_first ∈ zTbl := zin4 (List.mem_of_getElem? (i := 64) (by decide +kernel)) rfl
theorem mC_yX8_first : Cond.code yX8_first prog_10_method_38_code 2 (Option.some Jvm.ClassFile.FieldType.int) ∈ zTbl := zin4 (List.mem_of_getElem? (i := 65) (by decide +kernel)) rfl
theorem mML_98 : Cond.methodLink RL 98 yX8_order ∈ zTbl := zin4 (List.mem_of_getElem? (i := 66) (by decide +kernel)) rfl
theorem mI_yX8_order : Cond.instanceMethod yX8_order ∈ zTbl := zin4 (List.mem_of_getElem? (i := 67) (by decide +kernel)) rfl
theorem mV_yX8_order : Cond.selects RX8 yX8_order yX8_order ∈ zTbl := zin4 (List.mem_of_getElem? (i := 68) (by decide +kernel)) rfl
theorem mC_yX8_order : Cond.code yX8_order prog_10_method_44_code 3 (Option.some Jvm.ClassFile.FieldType.int) ∈ zTbl := zin4 (List.mem_of_getElem? (i := 69) (by decide +kernel)) rfl
theorem mMX8_180 : Cond.methodLink RX8 180 yX8_ordered ∈ zTbl := zin4 (List.mem_of_getElem? (i := 70) (by decide +kernel)) rfl
theorem mI_yX8_ordered : Cond.instanceMethod yX8_ordered ∈ zTbl := zin4 (List.mem_of_getElem? (i := 72) (by decide +kernel)) rfl
theorem mC_yX8_ordered : Cond.code yX8_ordered prog_10_method_43_code 3 (Option.some Jvm.ClassFile.FieldType.int) ∈ zTbl := zin4 (List.mem_of_getElem? (i := 73) (by decide +kernel)) rfl
theorem mMX8_177 : Cond.methodLink RX8 177 yX8_compared ∈ zTbl := zin4 (List.mem_of_getElem? (i := 74) (by decide +kernel)) rfl
theorem mI_yX8_compared : Cond.instanceMethod yX8_compared ∈ zTbl := zin4 (List.mem_of_getElem? (i := 76) (by decide +kernel)) rfl
theorem mC_yX8_compared : Cond.code yX8_compared prog_10_method_42_code 10 (Option.some Jvm.ClassFile.FieldType.int) ∈ zTbl := zin4 (List.mem_of_getElem? (i := 77) (by decide +kernel)) rfl
theorem mMX8_166 : Cond.methodLink RX8 166 yX8_by ∈ zTbl := zin4 (List.mem_of_getElem? (i := 78) (by decide +kernel)) rfl
theorem mS_yX8_by : Cond.static yX8_by ∈ zTbl := zin4 (List.mem_of_getElem? (i := 79) (by decide +kernel)) rfl
theorem mC_yX8_by : Cond.code yX8_by prog_10_method_39_code 4 (Option.some Jvm.ClassFile.FieldType.int) ∈ zTbl := zin4 (List.mem_of_getElem? (i := 80) (by decide +kernel)) rfl
theorem mMX8_170 : Cond.methodLink RX8 170 yX8_byRows ∈ zTbl := zin4 (List.mem_of_getElem? (i := 81) (by decide +kernel)) rfl
theorem mI_yX8_byRows : Cond.instanceMethod yX8_byRows ∈ zTbl := zin4 (List.mem_of_getElem? (i := 83) (by decide +kernel)) rfl
theorem mC_yX8_byRows : Cond.code yX8_byRows prog_10_method_41_code 6 (Option.some Jvm.ClassFile.FieldType.int) ∈ zTbl := zin4 (List.mem_of_getElem? (i := 84) (by decide +kernel)) rfl
theorem mMX8_174 : Cond.methodLink RX8 174 yX8_line ∈ zTbl := zin4 (List.mem_of_getElem? (i := 85) (by decide +kernel)) rfl
theorem mS_yX8_line : Cond.static yX8_line ∈ zTbl := zin4 (List.mem_of_getElem? (i := 86) (by decide +kernel)) rfl
theorem mC_yX8_line : Cond.code yX8_line prog_10_method_40_code 2 (Option.some Jvm.ClassFile.FieldType.long) ∈ zTbl := zin4 (List.mem_of_getElem? (i := 87) (by decide +kernel)) rfl
theorem mML_102 : Cond.methodLink RL 102 yX8_ranked ∈ zTbl := zin4 (List.mem_of_getElem? (i := 88) (by decide +kernel)) rfl
theorem mI_yX8_ranked : Cond.instanceMethod yX8_ranked ∈ zTbl := zin4 (List.mem_of_getElem? (i := 89) (by decide +kernel)) rfl
theorem mV_yX8_ranked : Cond.selects RX8 yX8_ranked yX8_ranked ∈ zTbl := zin4 (List.mem_of_getElem? (i := 90) (by decide +kernel)) rfl
theorem mC_yX8_ranked : Cond.code yX8_ranked prog_10_method_45_code 6 (Option.some Jvm.ClassFile.FieldType.int) ∈ zTbl := zin4 (List.mem_of_getElem? (i := 91) (by decide +kernel)) rfl
theorem mML_111 : Cond.methodLink RL 111 yX8_family ∈ zTbl := zin4 (List.mem_of_getElem? (i := 92) (by decide +kernel)) rfl
theorem mI_yX8_family : Cond.instanceMethod yX8_family ∈ zTbl := zin4 (List.mem_of_getElem? (i := 93) (by decide +kernel)) rfl
theorem mV_yX8_family : Cond.selects RX8 yX8_family yX8_family ∈ zTbl := zin4 (List.mem_of_getElem? (i := 94) (by decide +kernel)) rfl
theorem mC_yX8_family : Cond.code yX8_family prog_10_method_47_code 9 (Option.some Jvm.ClassFile.FieldType.int) ∈ zTbl := zin4 (List.mem_of_getElem? (i := 95) (by decide +kernel)) rfl
theorem mMX8_183 : Cond.methodLink RX8 183 yX8_told4 ∈ zTbl := zin4 (List.mem_of_getElem? (i := 96) (by decide +kernel)) rfl
theorem mS_yX8_told4 : Cond.static yX8_told4 ∈ zTbl := zin4 (List.mem_of_getElem? (i := 97) (by decide +kernel)) rfl
theorem mC_yX8_told4 : Cond.code yX8_told4 prog_10_method_46_code 5 (Option.some Jvm.ClassFile.FieldType.int) ∈ zTbl := zin4 (List.mem_of_getElem? (i := 98) (by decide +kernel)) rfl
theorem mML_115 : Cond.methodLink RL 115 yX8_tag ∈ zTbl := zin4 (List.mem_of_getElem? (i := 99) (by decide +kernel)) rfl
theorem mI_yX8_tag : Cond.instanceMethod yX8_tag ∈ zTbl := zin4 (List.mem_of_getElem? (i := 100) (by decide +kernel)) rfl
theorem mV_yX8_tag : Cond.selects RX8 yX8_tag yX8_tag ∈ zTbl := zin4 (List.mem_of_getElem? (i := 101) (by decide +kernel)) rfl
theorem mC_yX8_tag : Cond.code yX8_tag prog_10_method_49_code 3 (Option.some Jvm.ClassFile.FieldType.int) ∈ zTbl := zin4 (List.mem_of_getElem? (i := 102) (by decide +kernel)) rfl
theorem mMX8_190 : Cond.methodLink RX8 190 yX8_tagOf ∈ zTbl := zin4 (List.mem_of_getElem? (i := 103) (by decide +kernel)) rfl
theorem mI_yX8_tagOf : Cond.instanceMethod yX8_tagOf ∈ zTbl := zin4 (List.mem_of_getElem? (i := 105) (by decide +kernel)) rfl
theorem mC_yX8_tagOf : Cond.code yX8_tagOf prog_10_method_48_code 7 (Option.some Jvm.ClassFile.FieldType.int) ∈ zTbl := zin4 (List.mem_of_getElem? (i := 106) (by decide +kernel)) rfl
theorem mML_119 : Cond.methodLink RL 119 yX8_tagged ∈ zTbl := zin4 (List.mem_of_getElem? (i := 107) (by decide +kernel)) rfl
theorem mI_yX8_tagged : Cond.instanceMethod yX8_tagged ∈ zTbl := zin4 (List.mem_of_getElem? (i := 108) (by decide +kernel)) rfl
theorem mV_yX8_tagged : Cond.selects RX8 yX8_tagged yX8_tagged ∈ zTbl := zin4 (List.mem_of_getElem? (i := 109) (by decide +kernel)) rfl
theorem mC_yX8_tagged : Cond.code yX8_tagged prog_10_method_50_code 5 (Option.some Jvm.ClassFile.FieldType.int) ∈ zTbl := zin4 (List.mem_of_getElem? (i := 110) (by decide +kernel)) rfl
theorem mML_123 : Cond.methodLink RL 123 yX8_constant ∈ zTbl := zin4 (List.mem_of_getElem? (i := 111) (by decide +kernel)) rfl
theorem mI_yX8_constant : Cond.instanceMethod yX8_constant ∈ zTbl := zin4 (List.mem_of_getElem? (i := 112) (by decide +kernel)) rfl
theorem mV_yX8_constant : Cond.selects RX8 yX8_constant yX8_constant ∈ zTbl := zin4 (List.mem_of_getElem? (i := 113) (by decide +kernel)) rfl
theorem mC_yX8_constant : Cond.code yX8_constant prog_10_method_55_code 3 (Option.some Jvm.ClassFile.FieldType.int) ∈ zTbl := zin4 (List.mem_of_getElem? (i := 114) (by decide +kernel)) rfl
theorem mMX8_196 : Cond.methodLink RX8 196 yX8_isEnumeration ∈ zTbl := zin4 (List.mem_of_getElem? (i := 115) (by decide +kernel)) rfl
theorem mS_yX8_isEnumeration : Cond.static yX8_isEnumeration ∈ zTbl := zin4 (List.mem_of_getElem? (i := 116) (by decide +kernel)) rfl
theorem mC_yX8_isEnumeration : Cond.code yX8_isEnumeration prog_10_method_51_code 1 (Option.some Jvm.ClassFile.FieldType.boolean) ∈ zTbl := zin4 (List.mem_of_getElem? (i := 117) (by decide +kernel)) rfl
theorem mMX8_199 : Cond.methodLink RX8 199 yX8_constantOf ∈ zTbl := zin4 (List.mem_of_getElem? (i := 118) (by decide +kernel)) rfl
theorem mI_yX8_constantOf : Cond.instanceMethod yX8_constantOf ∈ zTbl := zin4 (List.mem_of_getElem? (i := 120) (by decide +kernel)) rfl
theorem mC_yX8_constantOf : Cond.code yX8_constantOf prog_10_method_54_code 4 (Option.some Jvm.ClassFile.FieldType.int) ∈ zTbl := zin4 (List.mem_of_getElem? (i := 121) (by decide +kernel)) rfl
theorem mML_127 : Cond.methodLink RL 127 yX8_named ∈ zTbl := zin4 (List.mem_of_getElem? (i := 122) (by decide +kernel)) rfl
theorem mI_yX8_named : Cond.instanceMethod yX8_named ∈ zTbl := zin4 (List.mem_of_getElem? (i := 123) (by decide +kernel)) rfl
theorem mV_yX8_named : Cond.selects RX8 yX8_named yX8_named ∈ zTbl := zin4 (List.mem_of_getElem? (i := 124) (by decide +kernel)) rfl
theorem mC_yX8_named : Cond.code yX8_named prog_10_method_56_code 4 (Option.some Jvm.ClassFile.FieldType.int) ∈ zTbl := zin4 (List.mem_of_getElem? (i := 125) (by decide +kernel)) rfl
theorem mML_131 : Cond.methodLink RL 131 yX8_drop ∈ zTbl := zin4 (List.mem_of_getElem? (i := 126) (by decide +kernel)) rfl
theorem mI_yX8_drop : Cond.instanceMethod yX8_drop ∈ zTbl := zin4 (List.mem_of_getElem? (i := 127) (by decide +kernel)) rfl
theorem mV_yX8_drop : Cond.selects RX8 yX8_drop yX8_drop ∈ zTbl := zin4 (List.mem_of_getElem? (i := 128) (by decide +kernel)) rfl
theorem mC_yX8_drop : Cond.code yX8_drop prog_10_method_57_code 4 (Option.some Jvm.ClassFile.FieldType.int) ∈ zTbl := zin4 (List.mem_of_getElem? (i := 129) (by decide +kernel)) rfl
theorem mMX8_202 : Cond.methodLink RX8 202 yX8_isConstant ∈ zTbl := zin4 (List.mem_of_getElem? (i := 130) (by decide +kernel)) rfl
theorem mI_yX8_isConstant : Cond.instanceMethod yX8_isConstant ∈ zTbl := zin4 (List.mem_of_getElem? (i := 132) (by decide +kernel)) rfl
theorem mC_yX8_isConstant : Cond.code yX8_isConstant prog_10_method_52_code 2 (Option.some Jvm.ClassFile.FieldType.boolean) ∈ zTbl := zin4 (List.mem_of_getElem? (i := 133) (by decide +kernel)) rfl
theorem mML_135 : Cond.methodLink RL 135 yX8_reorder ∈ zTbl := zin4 (List.mem_of_getElem? (i := 134) (by decide +kernel)) rfl
theorem mI_yX8_reorder : Cond.instanceMethod yX8_reorder ∈ zTbl := zin4 (List.mem_of_getElem? (i := 135) (by decide +kernel)) rfl
theorem mV_yX8_reorder : Cond.selects RX8 yX8_reorder yX8_reorder ∈ zTbl := zin4 (List.mem_of_getElem? (i := 136) (by decide +kernel)) rfl
theorem mC_yX8_reorder : Cond.code yX8_reorder prog_10_method_58_code 6 (Option.some Jvm.ClassFile.FieldType.int) ∈ zTbl := zin4 (List.mem_of_getElem? (i := 137) (by decide +kernel)) rfl
theorem mKX8_205 : Cond.constantLong RX8 205 (48271) ∈ zTbl := zin4 (List.mem_of_getElem? (i := 138) (by decide +kernel)) rfl
theorem mKX8_207 : Cond.constantLong RX8 207 (2147483647) ∈ zTbl := zin4 (List.mem_of_getElem? (i := 139) (by decide +kernel)) rfl
theorem mMX8_209 : Cond.methodLink RX8 209 yX8_constantAt ∈ zTbl := zin4 (List.mem_of_getElem? (i := 140) (by decide +kernel)) rfl
theorem mI_yX8_constantAt : Cond.instanceMethod yX8_constantAt ∈ zTbl := zin4 (List.mem_of_getElem? (i := 142) (by decide +kernel)) rfl
theorem mC_yX8_constantAt : Cond.code yX8_constantAt prog_10_method_53_code 4 (Option.some Jvm.ClassFile.FieldType.int) ∈ zTbl := zin4 (List.mem_of_getElem? (i := 143) (by decide +kernel)) rfl
theorem mML_139 : Cond.methodLink RL 139 yX8_seed ∈ zTbl := zin4 (List.mem_of_getElem? (i := 144) (by decide +kernel)) rfl
theorem mI_yX8_seed : Cond.instanceMethod yX8_seed ∈ zTbl := zin4 (List.mem_of_getElem? (i := 145) (by decide +kernel)) rfl
theorem mV_yX8_seed : Cond.selects RX8 yX8_seed yX8_seed ∈ zTbl := zin4 (List.mem_of_getElem? (i := 146) (by decide +kernel)) rfl
theorem mC_yX8_seed : Cond.code yX8_seed prog_10_method_59_code 3 (Option.some Jvm.ClassFile.FieldType.int) ∈ zTbl := zin4 (List.mem_of_getElem? (i := 147) (by decide +kernel)) rfl
theorem mKX8_212 : Cond.constant RX8 212 (2147483647) ∈ zTbl := zin4 (List.mem_of_getElem? (i := 148) (by decide +kernel)) rfl
theorem mML_143 : Cond.methodLink RL 143 yX8_told ∈ zTbl := zin4 (List.mem_of_getElem? (i := 149) (by decide +kernel)) rfl
theorem mI_yX8_told : Cond.instanceMethod yX8_told ∈ zTbl := zin4 (List.mem_of_getElem? (i := 150) (by decide +kernel)) rfl
theorem mV_yX8_told : Cond.selects RX8 yX8_told yX8_told ∈ zTbl := zin4 (List.mem_of_getElem? (i := 151) (by decide +kernel)) rfl
theorem mC_yX8_told : Cond.code yX8_told prog_10_method_60_code 3 (Option.some Jvm.ClassFile.FieldType.int) ∈ zTbl := zin4 (List.mem_of_getElem? (i := 152) (by decide +kernel)) rfl
theorem mML_147 : Cond.methodLink RL 147 yX8_placed ∈ zTbl := zin4 (List.mem_of_getElem? (i := 153) (by decide +kernel)) rfl
theorem mI_yX8_placed : Cond.instanceMethod yX8_placed ∈ zTbl := zin4 (List.mem_of_getElem? (i := 154) (by decide +kernel)) rfl
theorem mV_yX8_placed : Cond.selects RX8 yX8_placed yX8_placed ∈ zTbl := zin4 (List.mem_of_getElem? (i := 155) (by decide +kernel)) rfl
theorem mC_yX8_placed : Cond.code yX8_placed prog_10_method_61_code 3 (Option.some Jvm.ClassFile.FieldType.int) ∈ zTbl := zin4 (List.mem_of_getElem? (i := 156) (by decide +kernel)) rfl
theorem mML_151 : Cond.methodLink RL 151 yX8_put ∈ zTbl := zin4 (List.mem_of_getElem? (i := 157) (by decide +kernel)) rfl
theorem mI_yX8_put : Cond.instanceMethod yX8_put ∈ zTbl := zin4 (List.mem_of_getElem? (i := 158) (by decide +kernel)) rfl
theorem mV_yX8_put : Cond.selects RX8 yX8_put yX8_put ∈ zTbl := zin4 (List.mem_of_getElem? (i := 159) (by decide +kernel)) rfl
theorem mC_yX8_put : Cond.code yX8_put prog_10_method_63_code 5 (Option.some Jvm.ClassFile.FieldType.int) ∈ zTbl := zin4 (List.mem_of_getElem? (i := 160) (by decide +kernel)) rfl
theorem mMX8_216 : Cond.methodLink RX8 216 yX8_keyOf ∈ zTbl := zin4 (List.mem_of_getElem? (i := 161) (by decide +kernel)) rfl
theorem mI_yX8_keyOf : Cond.instanceMethod yX8_keyOf ∈ zTbl := zin4 (List.mem_of_getElem? (i := 163) (by decide +kernel)) rfl
theorem mC_yX8_keyOf : Cond.code yX8_keyOf prog_10_method_62_code 3 (Option.some Jvm.ClassFile.FieldType.int) ∈ zTbl := zin4 (List.mem_of_getElem? (i := 164) (by decide +kernel)) rfl
theorem mML_155 : Cond.methodLink RL 155 yX8_get ∈ zTbl := zin4 (List.mem_of_getElem? (i := 165) (by decide +kernel)) rfl
theorem mI_yX8_get : Cond.instanceMethod yX8_get ∈ zTbl := zin4 (List.mem_of_getElem? (i := 166) (by decide +kernel)) rfl
theorem mV_yX8_get : Cond.selects RX8 yX8_get yX8_get ∈ zTbl := zin4 (List.mem_of_getElem? (i := 167) (by decide +kernel)) rfl
theorem mC_yX8_get : Cond.code yX8_get prog_10_method_64_code 2 (Option.some Jvm.ClassFile.FieldType.int) ∈ zTbl := zin4 (List.mem_of_getElem? (i := 168) (by decide +kernel)) rfl
theorem mML_159 : Cond.methodLink RL 159 yX8_count ∈ zTbl := zin4 (List.mem_of_getElem? (i := 169) (by decide +kernel)) rfl
theorem mI_yX8_count : Cond.instanceMethod yX8_count ∈ zTbl := zin4 (List.mem_of_getElem? (i := 170) (by decide +kernel)) rfl
theorem mV_yX8_count : Cond.selects RX8 yX8_count yX8_count ∈ zTbl := zin4 (List.mem_of_getElem? (i := 171) (by decide +kernel)) rfl
theorem mC_yX8_count : Cond.code yX8_count prog_10_method_65_code 2 (Option.some Jvm.ClassFile.FieldType.int) ∈ zTbl := zin4 (List.mem_of_getElem? (i := 172) (by decide +kernel)) rfl
theorem mKL_27 : Cond.constantLong RL 27 (4294967295) ∈ zTbl := zin4 (List.mem_of_getElem? (i := 173) (by decide +kernel)) rfl
theorem zX0_in : ∀ w ∈ u_ws RX0 TX0 2, w ∈ zTbl := fun w h => zmem ((show ∀ w ∈ u_ws RX0 TX0 2, w ∈ lw_tbl by decide +kernel) w h) ((show ∀ w ∈ u_ws RX0 TX0 2, zgood w = true by decide +kernel) w h)
theorem zX1_in : ∀ w ∈ u_ws RX1 TX1 2, w ∈ zTbl := fun w h => zmem ((show ∀ w ∈ u_ws RX1 TX1 2, w ∈ lw_tbl by decide +kernel) w h) ((show ∀ w ∈ u_ws RX1 TX1 2, zgood w = true by decide +kernel) w h)
theorem zX2_in : ∀ w ∈ u_ws RX2 TX2 4, w ∈ zTbl := fun w h => zmem ((show ∀ w ∈ u_ws RX2 TX2 4, w ∈ lw_tbl by decide +kernel) w h) ((show ∀ w ∈ u_ws RX2 TX2 4, zgood w = true by decide +kernel) w h)
theorem zX3_in : ∀ w ∈ u_ws RX3 TX3 2, w ∈ zTbl := fun w h => zmem ((show ∀ w ∈ u_ws RX3 TX3 2, w ∈ lw_tbl by decide +kernel) w h) ((show ∀ w ∈ u_ws RX3 TX3 2, zgood w = true by decide +kernel) w h)
theorem zX4_in : ∀ w ∈ u_ws RX4 TX4 7, w ∈ zTbl := fun w h => zmem ((show ∀ w ∈ u_ws RX4 TX4 7, w ∈ lw_tbl by decide +kernel) w h) ((show ∀ w ∈ u_ws RX4 TX4 7, zgood w = true by decide +kernel) w h)
theorem zX5_in : ∀ w ∈ u_ws RX5 TX5 3, w ∈ zTbl := fun w h => zmem ((show ∀ w ∈ u_ws RX5 TX5 3, w ∈ lw_tbl by decide +kernel) w h) ((show ∀ w ∈ u_ws RX5 TX5 3, zgood w = true by decide +kernel) w h)
theorem zX6_in : ∀ w ∈ u_ws RX6 TX6 3, w ∈ zTbl := fun w h => zmem ((show ∀ w ∈ u_ws RX6 TX6 3, w ∈ lw_tbl by decide +kernel) w h) ((show ∀ w ∈ u_ws RX6 TX6 3, zgood w = true by decide +kernel) w h)
theorem zX7_in : ∀ w ∈ u_ws RX7 TX7 11, w ∈ zTbl := fun w h => zmem ((show ∀ w ∈ u_ws RX7 TX7 11, w ∈ lw_tbl by decide +kernel) w h) ((show ∀ w ∈ u_ws RX7 TX7 11, zgood w = true by decide +kernel) w h)
theorem zX8_in : ∀ w ∈ u_ws RX8 TX8 27, w ∈ zTbl := fun w h => zmem ((show ∀ w ∈ u_ws RX8 TX8 27, w ∈ lw_tbl by decide +kernel) w h) ((show ∀ w ∈ u_ws RX8 TX8 27, zgood w = true by decide +kernel) w h)
end
section
/-! A WORLD AS A PARTIAL MAP of addresses: f a = some e says what stands at a; nothing is said of the rest. -/
abbrev zM : Type := Nat → Option va_E
/-- the arrays' kinds: int, long, boolean, and rows of Figure, Family, Constant, Enumeration -/
def zT (cy : Nat → ClassId) : List (ClassId × FieldType) := [(cy 0, .int), (cy 1, .long), (cy 2, .boolean), (cy 3, .object RX4), (cy 4, .object RX3), (cy 5, .object RX0), (cy 6, .object RX1)]
def zH (D : va_G) (A : Nat → Prop) (f : zM) (H : Heap) : Prop := ∀ (a : Nat) (e : va_E), f a = some e → va_at D vwCl (a, e) H ∧ A a
def zA (f : zM) (sz : Nat) : Nat → Prop := fun q => (∃ e : va_E, f q = some e) ∨ sz ≤ q
def zW (U : State) : Prop := ∀ w ∈ zTbl, ∀ a : Array Value, w.before a U = true
def zS (D : va_G) (cy : Nat → ClassId) (f : zM) (sz : Nat) (U : State) : Prop := U.heap.size = sz ∧ zH D (zA f sz) f U.heap ∧ va_K D vwCl (zT cy) U ∧ zW U
def zB (D : va_G) (f : zM) (sz : Nat) : zM → State → Prop := fun f1 t => zH D (zA f sz) f1 t.heap
theorem zTbl_good {w : Cond} (h : w ∈ zTbl) : zgood w = true := (List.mem_filter.mp h).2
theorem zW_warm {s U : State} (hW : s.WarmedH U.vm) (h : zW s) : zW U := by
  intro w hw a
  have g := zTbl_good hw
  have h0 := h w hw a
  cases w <;> first
    | exact word_at hW (Or.inl g) h0
    | exact word_at hW (Or.inr ⟨_, rfl⟩) h0
    | exact va_Nw.use rfl (va_Nw.warmF hW (va_Nw.of rfl h0))
    | exact va_Nw.use rfl (va_Nw.warmM hW (va_Nw.of rfl h0))
    | skip
  rename_i ty
  cases ty <;> first
    | exact va_AO.use (va_AO.moved hW.alike (va_AO.of h0))
    | exact word_at hW (Or.inl g) h0
theorem zW_calling {U : State} {g : JFrame} {mk : MethodId} {a : Array Value} (h : zW U) : zW (U.calling g mk a) := zW_warm (State.WarmedH.refl U) h
theorem zW_of {args : Array Value} {s : State} (h : ∀ w ∈ zTbl, w.before args s = true) : zW s := by
  intro w hw a
  have g := zTbl_good hw
  have h0 := h w hw
  cases w <;> first
    | exact word_at (State.WarmedH.refl s) (Or.inl g) h0
    | exact word_at (State.WarmedH.refl s) (Or.inr ⟨_, rfl⟩) h0
    | exact va_Nw.use rfl (va_Nw.of rfl h0)
    | skip
  rename_i ty
  cases ty <;> first
    | exact va_AO.use (va_AO.of h0)
    | exact word_at (State.WarmedH.refl s) (Or.inl g) h0
/-- the map as a list of cells, in the order of the addresses -/
theorem z_list {D : va_G} {A : Nat → Prop} {f : zM} {H : Heap} (h : zH D A f H) : ∃ ws : va_W, va_P D vwCl ws H ∧ va_D A ws ∧ ∀ (a : Nat) (e : va_E), f a = some e ↔ (a, e) ∈ ws := by
  have key : ∀ (a : Nat) (e : va_E), f a = some e ↔ (a, e) ∈ (List.range H.size).filterMap (fun b => (f b).map (fun x => (b, x))) := by
    intro a e
    rw [List.mem_filterMap]
    constructor
    · intro q
      have hl : a < H.size := (h a e q).1.lt
      exact ⟨a, List.mem_range.mpr hl, by rw [q]; rfl⟩
    · rintro ⟨b, -, q⟩
      cases hb : f b with
      | none => rw [hb] at q; cases q
      | some x =>
        rw [hb] at q
        have q2 : (b, x) = (a, e) := Option.some.inj q
        cases q2
        exact hb
  have hord : List.Pairwise (fun (p q : Nat × va_E) => p.1 < q.1) ((List.range H.size).filterMap (fun b => (f b).map (fun x => (b, x)))) := by
    refine List.Pairwise.filterMap (R := fun a b => a < b) _ ?_ List.pairwise_lt_range
    intro a a' haa b hb b' hb'
    cases h1 : f a with
    | none => rw [h1] at hb; cases hb
    | some x =>
      cases h2 : f a' with
      | none => rw [h2] at hb'; cases hb'
      | some y =>
        rw [h1] at hb
        rw [h2] at hb'
        cases hb
        cases hb'
        exact haa
  refine ⟨_, fun k q hk => ?_, ⟨fun i j p q hi hj hpq => ?_, fun k q hk => ?_⟩, key⟩
  · exact (h q.1 q.2 ((key q.1 q.2).mpr (List.mem_of_getElem? hk))).1
  · rcases Nat.lt_trichotomy i j with hij | hij | hij
    · exfalso
      obtain ⟨hi1, hi2⟩ := List.getElem?_eq_some_iff.mp hi
      obtain ⟨hj1, hj2⟩ := List.getElem?_eq_some_iff.mp hj
      have := List.pairwise_iff_getElem.mp hord i j hi1 hj1 hij
      rw [hi2, hj2] at this
      omega
    · exact hij
    · exfalso
      obtain ⟨hi1, hi2⟩ := List.getElem?_eq_some_iff.mp hi
      obtain ⟨hj1, hj2⟩ := List.getElem?_eq_some_iff.mp hj
      have := List.pairwise_iff_getElem.mp hord j i hj1 hi1 hij
      rw [hi2, hj2] at this
      omega
  · exact (h q.1 q.2 ((key q.1 q.2).mpr (List.mem_of_getElem? hk))).2
theorem z_one {D : va_G} {A : Nat → Prop} {f : zM} {H : Heap} (h : zH D A f H) {a : Nat} {e : va_E} (ha : f a = some e) : va_P D vwCl [(a, e)] H := by
  intro k q hk
  have hz : k < 1 := (List.getElem?_eq_some_iff.mp hk).1
  rw [show k = 0 by omega] at hk
  cases hk
  exact (h a e ha).1
theorem z_set {D : va_G} {A : Nat → Prop} {f : zM} {H : Heap} (h : zH D A f H) {a : Nat} {e0 : va_E} (ha : f a = some e0) : ∃ (ws : va_W) (k : Nat), va_P D vwCl ws H ∧ va_D A ws ∧ ws[k]? = some (a, e0) ∧ (∀ (b : Nat) (eb : va_E), f b = some eb → ∃ j : Nat, ws[j]? = some (b, eb)) ∧
    ∀ (e : va_E) (H1 : Heap), va_P D vwCl (ws.set k (a, e)) H1 → va_D A (ws.set k (a, e)) → zH D A (va_up f a (some e)) H1 := by
  obtain ⟨ws, hP, hD, hm⟩ := z_list h
  obtain ⟨k, hk⟩ := List.getElem?_of_mem ((hm a e0).mp ha)
  have hl := (List.getElem?_eq_some_iff.mp hk).1
  refine ⟨ws, k, hP, hD, hk, fun b eb hb => List.getElem?_of_mem ((hm b eb).mp hb), fun e H1 hP1 hD1 b eb hb => ?_⟩
  by_cases hba : b = a
  · subst hba
    rw [va_up_self] at hb
    cases hb
    have hk1 : (ws.set k (b, e))[k]? = some (b, e) := List.getElem?_set_self hl
    exact ⟨hP1 k _ hk1, hD1.2 k _ hk1⟩
  · rw [va_up_ne f _ hba] at hb
    obtain ⟨j, hj⟩ := List.getElem?_of_mem ((hm b eb).mp hb)
    have hjk : k ≠ j := by
      intro q
      subst q
      rw [hk] at hj
      cases hj
      exact hba rfl
    have hj1 : (ws.set k (a, e))[j]? = some (b, eb) := by rw [List.getElem?_set_ne hjk]; exact hj
    exact ⟨hP1 j _ hj1, hD1.2 j _ hj1⟩
theorem z_push {D : va_G} {A : Nat → Prop} {f : zM} {H : Heap} (h : zH D A f H) : ∃ (ws : va_W), va_P D vwCl ws H ∧ va_D A ws ∧
    ∀ (q : Nat) (e : va_E) (H1 : Heap), va_P D vwCl (ws ++ [(q, e)]) H1 → va_D A (ws ++ [(q, e)]) → f q = none ∧ zH D A (va_up f q (some e)) H1 := by
  obtain ⟨ws, hP, hD, hm⟩ := z_list h
  refine ⟨ws, hP, hD, fun q e H1 hP1 hD1 => ?_⟩
  have hk1 : (ws ++ [(q, e)])[ws.length]? = some (q, e) := by simp
  have hn : f q = none := by
    cases hq : f q with
    | none => rfl
    | some x =>
      exfalso
      obtain ⟨j, hj⟩ := List.getElem?_of_mem ((hm q x).mp hq)
      have hl := (List.getElem?_eq_some_iff.mp hj).1
      have hj1 : (ws ++ [(q, e)])[j]? = some (q, x) := by rw [List.getElem?_append_left hl]; exact hj
      have := hD1.1 j ws.length _ _ hj1 hk1 rfl
      omega
  refine ⟨hn, fun b eb hb => ?_⟩
  by_cases hbq : b = q
  · subst hbq
    rw [va_up_self] at hb
    cases hb
    exact ⟨hP1 _ _ hk1, hD1.2 _ _ hk1⟩
  · rw [va_up_ne f _ hbq] at hb
    obtain ⟨j, hj⟩ := List.getElem?_of_mem ((hm b eb).mp hb)
    have hl := (List.getElem?_eq_some_iff.mp hj).1
    have hj1 : (ws ++ [(q, e)])[j]? = some (b, eb) := by rw [List.getElem?_append_left hl]; exact hj
    exact ⟨hP1 j _ hj1, hD1.2 j _ hj1⟩
theorem z_mono {D : va_G} {A B : Nat → Prop} {f : zM} {H : Heap} (h : zH D A f H) (hAB : ∀ q, A q → B q) : zH D B f H := fun a e q => ⟨(h a e q).1, hAB a (h a e q).2⟩
theorem z_self {D : va_G} {A : Nat → Prop} {f : zM} {H : Heap} (sz : Nat) (h : zH D A f H) : zH D (zA f sz) f H := fun a e q => ⟨(h a e q).1, Or.inl ⟨e, q⟩⟩
theorem z_in {D : va_G} {A0 : Nat → Prop} {f : zM} {H0 H : Heap} {locs : List Loc} (h : zH D A0 f H) (hS : va_S A0 H0 H locs) (hA : ∀ q, H0.size ≤ q → A0 q) : ∀ q, zA f H.size q → A0 q := by
  rintro q (⟨e, he⟩ | hq)
  · exact (h q e he).2
  · exact hA q (Nat.le_trans hS.1 hq)
/-- a class of ours, kind ci, its fields, their types -/
def zL (ci : Nat) (C : String) (T : u_T) (N : Nat) (ty : Nat → FieldType) : Prop := vwCl[ci]? = some (C, T, N) ∧ (∀ w ∈ u_ws C T N, w ∈ zTbl) ∧ (∀ k, k < N → parseFieldDescriptor (T k).2.2.1 = some (ty k)) ∧ ∀ a, a < N → ∀ b, b < N → a ≠ b → (T a).2.1 ≠ (T b).2.1
theorem zl0 : zL 0 RX0 TX0 2 tyX0 := ⟨rfl, zX0_in, tyX0_ok, nmX0⟩
theorem zl1 : zL 1 RX1 TX1 2 tyX1 := ⟨rfl, zX1_in, tyX1_ok, nmX1⟩
theorem zl2 : zL 2 RX2 TX2 4 tyX2 := ⟨rfl, zX2_in, tyX2_ok, nmX2⟩
theorem zl3 : zL 3 RX3 TX3 2 tyX3 := ⟨rfl, zX3_in, tyX3_ok, nmX3⟩
theorem zl4 : zL 4 RX4 TX4 7 tyX4 := ⟨rfl, zX4_in, tyX4_ok, nmX4⟩
theorem zl5 : zL 5 RX5 TX5 3 tyX5 := ⟨rfl, zX5_in, tyX5_ok, nmX5⟩
theorem zl6 : zL 6 RX6 TX6 3 tyX6 := ⟨rfl, zX6_in, tyX6_ok, nmX6⟩
theorem zl7 : zL 7 RX7 TX7 11 tyX7 := ⟨rfl, zX7_in, tyX7_ok, nmX7⟩
theorem zl8 : zL 8 RX8 TX8 27 tyX8 := ⟨rfl, zX8_in, tyX8_ok, nmX8⟩
/-- what holds all through a method's body -/
def zC (D : va_G) (cy : Nat → ClassId) (p : Program) (s : State) (m : MethodId) (args : Array Value) (meth : Method) (c : Code) (own : String) (cc : ByteArray) (nL : Nat) : Prop :=
  p.tables.exec = Jvm.exec ∧ c.code = cc ∧ c.maxLocals = nL ∧ s.vm.findClass own = some m.cls ∧ (∀ w ∈ zTbl, w.before args s = true) ∧ va_K D vwCl (zT cy) s ∧ zW s ∧ meth.locks = false
/-- a method that a call can name: its words -/
def zY (y : MethodName) (bytes : ByteArray) (maxL : Nat) (ret : Option FieldType) (n : Nat) (C : String) : Prop := Cond.code y bytes maxL ret ∈ zTbl ∧ Cond.instanceMethod y ∈ zTbl ∧ Cond.selects C y y ∈ zTbl ∧ Cond.initialized C ∈ zTbl ∧ y.cls = C ∧ y.cls ≠ "java/lang/invoke/MethodHandle" ∧ y.cls ≠ "java/lang/invoke/VarHandle" ∧ (parseMethodDescriptor y.desc).map (fun d => d.parameters.length) = some n
def zYs (y : MethodName) (bytes : ByteArray) (maxL : Nat) (ret : Option FieldType) (n : Nat) (C : String) : Prop := Cond.code y bytes maxL ret ∈ zTbl ∧ Cond.static y ∈ zTbl ∧ Cond.initialized C ∈ zTbl ∧ y.cls = C ∧ y.cls ≠ "java/lang/invoke/MethodHandle" ∧ y.cls ≠ "java/lang/invoke/VarHandle" ∧ (parseMethodDescriptor y.desc).map (fun d => d.parameters.length) = some n
def zYi (y : MethodName) (bytes : ByteArray) (maxL : Nat) (n : Nat) (C : String) : Prop := Cond.code y bytes maxL none ∈ zTbl ∧ Cond.instanceMethod y ∈ zTbl ∧ Cond.initialized C ∈ zTbl ∧ y.name = "<init>" ∧ y.cls = C ∧ y.cls ≠ "java/lang/invoke/MethodHandle" ∧ y.cls ≠ "java/lang/invoke/VarHandle" ∧ (parseMethodDescriptor y.desc).map (fun d => d.parameters.length) = some n
/-- contracts, by what is answered -/
def zCi (l : Launch) (D : va_G) (cy : Nat → ClassId) (y : MethodName) (cc : ByteArray) (maxL : Nat) (ret : Option FieldType) (rm : Room) (av : List Value) (f : zM) (post : Int32 → zM → Prop) : Prop := ∀ sz : Nat, Met l y [.code y cc maxL ret] rm (va_Pc av (zS D cy f sz)) (va_Qi post (zB D f sz) (zA f sz)) rm.cells rm.slots (zA f sz)
def zCl (l : Launch) (D : va_G) (cy : Nat → ClassId) (y : MethodName) (cc : ByteArray) (maxL : Nat) (ret : Option FieldType) (rm : Room) (av : List Value) (f : zM) (post : Int64 → zM → Prop) : Prop := ∀ sz : Nat, Met l y [.code y cc maxL ret] rm (va_Pc av (zS D cy f sz)) (va_Ql post (zB D f sz) (zA f sz)) rm.cells rm.slots (zA f sz)
def zCv (l : Launch) (D : va_G) (cy : Nat → ClassId) (y : MethodName) (cc : ByteArray) (maxL : Nat) (ret : Option FieldType) (rm : Room) (av : List Value) (f : zM) (post : zM → Prop) : Prop := ∀ sz : Nat, Met l y [.code y cc maxL ret] rm (va_Pc av (zS D cy f sz)) (va_Qv post (zB D f sz) (zA f sz)) rm.cells rm.slots (zA f sz)
def zCq (l : Launch) (D : va_G) (cy : Nat → ClassId) (y : MethodName) (cc : ByteArray) (maxL : Nat) (ret : Option FieldType) (rm : Room) (av : List Value) (f : zM) (post : Option Nat → zM → Prop) : Prop := ∀ sz : Nat, Met l y [.code y cc maxL ret] rm (va_Pc av (zS D cy f sz)) (va_Qq post (zB D f sz) (zA f sz)) rm.cells rm.slots (zA f sz)
theorem zPc_blind {D : va_G} {cy : Nat → ClassId} {f : zM} {sz : Nat} {av : List Value} : FrameBlind (va_Pc av (zS D cy f sz)) := by
  rintro a U g mk ⟨h1, h2, h3, h4, h5⟩
  exact ⟨h1, h2, h3, va_K.moved (u := U) (U := U.calling g mk a) (Vm.Alike.refl U.vm) h4, zW_calling h5⟩
theorem zPc_at {D : va_G} {cy : Nat → ClassId} {A : Nat → Prop} {f : zM} {H : Heap} {s : State} {av : List Value} (hz : zH D A f H) (hK : va_K D vwCl (zT cy) s) (hw : zW s) : ∀ U : State, U.heap = H → s.WarmedH U.vm → va_Pc av (zS D cy f H.size) av.toArray U := fun U hU hW => ⟨rfl, by rw [hU], by rw [hU]; exact z_self _ hz, va_K.moved hW.alike hK, zW_warm hW hw⟩
section ZMET
variable {l : Launch} {D : va_G} {cy : Nat → ClassId} {y : MethodName} {cc : ByteArray} {maxL : Nat} {ret : Option FieldType} {rm : Room} {av : List Value} {f : zM}
theorem z_body {Qc : Array Value → State → Outcome → State → Prop} {sz : Nat} (hy : plainName y.cls = true) (hlen : (lg_sl av).length ≤ maxL)
    (body : ∀ p e s m below meth c ls, zC D cy p s m av.toArray meth c y.cls cc maxL → meth.sig.returnType = ret → meth.name = y.name → s.heap.size = sz → zH D (zA f sz) f s.heap → lv_has ls maxL (lv_args 0 av) →
      W p l e rm s m av.toArray below meth c s.heap [] 0 0 (MQ below Qc av.toArray s rm.cells rm.slots (zA f sz)) (F0 m 0 ls [])) :
    Met l y [.code y cc maxL ret] rm (va_Pc av (zS D cy f sz)) Qc rm.cells rm.slots (zA f sz) := by
  refine Met.ofW (cc := cc) (maxL := maxL) (ret := ret) hy rfl ?_
  intro p e s m args below meth c s₁ B hml hv
  obtain ⟨rfl, hsz, hz, hK, hw⟩ := hv
  have hl := lv_entry av (n := maxL) hlen
  rw [lg_entry_eq]
  exact body p e s m below meth c _ ⟨B.exec, B.bytes, hml, findClass_of_methodNamed B.named, fun w h => hw w h _, hK, hw, B.notSynchronized⟩ B.returns (name_of_methodNamed B.named B.method).1 hsz hz hl
end ZMET
section ZW
variable {p : Program} {l : Launch} {e : Env} {R : Room} {s : State} {m : MethodId} {args : Array Value} {below : List Frame} {meth : Method} {c : Code} {H : Heap} {locs : List Loc} {cells slots : Nat} {Q : State → Prop}
variable {cc : ByteArray} {pc nL : Nat} {ls : Array Slot} {rest : List Value} {D : va_G} {cy : Nat → ClassId} {A : Nat → Prop} {f : zM} {a : Nat} {H0 : Heap} {own : String}
theorem z_iret {post : Int32 → zM → Prop} {f1 : zM} {v : Int32} {sz mc ms : Nat} {ret : FieldType} (C : zC D cy p s m args meth c own cc nL) (hr : meth.sig.returnType = some ret) (hn : narrow ret (.int v) = .int v) (hz : zH D (zA f sz) f1 H) (hS : va_S (zA f sz) s.heap H locs) (hp : post v f1) (hc : cells ≤ mc) (hs : slots ≤ ms) (hdg : decode cc pc = .ok (.ireturn, 1)) :
    W p l e R s m args below meth c H locs cells slots (MQ below (va_Qi post (zB D f sz) (zA f sz)) args s mc ms (zA f sz)) (F0 m pc ls [.int v]) := by
  refine W.widen hc hs ?_
  exact W.zret C.1 C.2.1 hr hn (fun t ht hW => ⟨⟨v, f1, rfl, hp, by show zH D (zA f sz) f1 t.heap; rw [ht]; exact hz⟩, hS.F ht⟩) hS.2.2 hdg C.2.2.2.2.2.2.2
theorem z_lret {post : Int64 → zM → Prop} {f1 : zM} {v : Int64} {sz mc ms : Nat} (C : zC D cy p s m args meth c own cc nL) (hr : meth.sig.returnType = some .long) (hz : zH D (zA f sz) f1 H) (hS : va_S (zA f sz) s.heap H locs) (hp : post v f1) (hc : cells ≤ mc) (hs : slots ≤ ms) (hdg : decode cc pc = .ok (.lreturn, 1)) :
    W p l e R s m args below meth c H locs cells slots (MQ below (va_Ql post (zB D f sz) (zA f sz)) args s mc ms (zA f sz)) (F0 m pc ls [.long v]) := by
  refine W.widen hc hs ?_
  exact W.lret C.1 C.2.1 hr (fun t ht hW => ⟨⟨v, f1, rfl, hp, by show zH D (zA f sz) f1 t.heap; rw [ht]; exact hz⟩, hS.F ht⟩) hS.2.2 hdg C.2.2.2.2.2.2.2
theorem z_vret {post : zM → Prop} {f1 : zM} {sz mc ms : Nat} (C : zC D cy p s m args meth c own cc nL) (hr : meth.sig.returnType = none) (hz : zH D (zA f sz) f1 H) (hS : va_S (zA f sz) s.heap H locs) (hp : post f1) (hc : cells ≤ mc) (hs : slots ≤ ms) (hdg : decode cc pc = .ok (.return_, 1)) :
    W p l e R s m args below meth c H locs cells slots (MQ below (va_Qv post (zB D f sz) (zA f sz)) args s mc ms (zA f sz)) (F0 m pc ls []) := by
  refine W.widen hc hs ?_
  exact W.vret C.1 C.2.1 hr (fun t ht hW => ⟨⟨f1, rfl, hp, by show zH D (zA f sz) f1 t.heap; rw [ht]; exact hz⟩, hS.F ht⟩) hS.2.2 hdg C.2.2.2.2.2.2.2
theorem z_aret {post : Option Nat → zM → Prop} {f1 : zM} {r : Option Nat} {v : Value} {sz mc ms : Nat} {rt : FieldType} (C : zC D cy p s m args meth c own cc nL) (hr : meth.sig.returnType = some rt) (hrt : (∃ n, rt = .object n) ∨ ∃ t, rt = .array t) (hv : va_rf r = v) (hz : zH D (zA f sz) f1 H) (hS : va_S (zA f sz) s.heap H locs) (hp : post r f1) (hc : cells ≤ mc) (hs : slots ≤ ms) (hdg : decode cc pc = .ok (.areturn, 1)) :
    W p l e R s m args below meth c H locs cells slots (MQ below (va_Qq post (zB D f sz) (zA f sz)) args s mc ms (zA f sz)) (F0 m pc ls [v]) := by
  subst hv
  refine W.widen hc hs ?_
  exact W.aret C.1 C.2.1 hr hrt (va_rf_or r) (fun t ht hW => ⟨⟨r, f1, rfl, hp, by show zH D (zA f sz) f1 t.heap; rw [ht]; exact hz⟩, hS.F ht⟩) hS.2.2 hdg C.2.2.2.2.2.2.2
theorem z_get {ci N index : Nat} {Cn : String} {T : u_T} {ty : Nat → FieldType} {fs : List Value} {k : Nat} {v : Value} (C : zC D cy p s m args meth c own cc nL) (hz : zH D A f H) (ha : f a = some (.inr (ci, fs))) (hc : zL ci Cn T N ty) (hlink : Cond.fieldLink own index (T k).1 (T k).2.1 (T k).2.2.1 ∈ zTbl) (hk : k < N) (hv : fs[k]? = some v) (hdg : decode cc pc = .ok (.getfield index, 3))
    (kk : W p l e R s m args below meth c H locs cells slots Q (F0 m (pc + 3) ls (v :: rest))) : W p l e R s m args below meth c H locs cells slots Q (F0 m pc ls (.ref a :: rest)) :=
  va_get C.1 C.2.1 C.2.2.2.2.1 hc.2.1 C.2.2.2.1 C.2.2.2.2.2.1 (z_one hz ha) 0 rfl hc.1 k hk (C.2.2.2.2.1 _ hlink) (fun _ h9 => h9) hv hdg kk
theorem z_getN {ci N index : Nat} {Cn host : String} {T : u_T} {ty : Nat → FieldType} {fs : List Value} {k : Nat} {v : Value} (C : zC D cy p s m args meth c own cc nL) (hz : zH D A f H) (ha : f a = some (.inr (ci, fs))) (hc : zL ci Cn T N ty) (hlink : Cond.fieldLinkNest own index (T k).1 (T k).2.1 (T k).2.2.1 host ∈ zTbl) (hk : k < N) (hv : fs[k]? = some v) (hdg : decode cc pc = .ok (.getfield index, 3))
    (kk : W p l e R s m args below meth c H locs cells slots Q (F0 m (pc + 3) ls (v :: rest))) : W p l e R s m args below meth c H locs cells slots Q (F0 m pc ls (.ref a :: rest)) :=
  va_getN C.1 C.2.1 C.2.2.2.2.1 hc.2.1 C.2.2.2.1 C.2.2.2.2.2.1 (z_one hz ha) 0 rfl hc.1 k hk (C.2.2.2.2.1 _ hlink) (fun _ h9 => h9) hv hdg kk
theorem z_put {ci N index : Nat} {Cn : String} {T : u_T} {ty : Nat → FieldType} {fs fs' : List Value} {k : Nat} {v : Value} (C : zC D cy p s m args meth c own cc nL) (hz : zH D A f H) (hS : va_S A H0 H locs) (ha : f a = some (.inr (ci, fs))) (hc : zL ci Cn T N ty) (hlink : Cond.fieldLink own index (T k).1 (T k).2.1 (T k).2.2.1 ∈ zTbl) (hk : k < N) (hfin : (T k).2.2.2 = false) (hn : narrow (ty k) v = v) (hfit : fits (ty k) v = true) (hl : k < fs.length) (hfs : fs.set k v = fs') (hdg : decode cc pc = .ok (.putfield index, 3))
    (kk : ∀ (H1 : Heap) (locs1 : List Loc) (f1 : zM), f1 a = some (.inr (ci, fs')) → (∀ b, b ≠ a → f1 b = f b) → zH D A f1 H1 → va_S A H0 H1 locs1 → W p l e R s m args below meth c H1 locs1 cells slots Q (F0 m (pc + 3) ls rest)) : W p l e R s m args below meth c H locs cells slots Q (F0 m pc ls (v :: .ref a :: rest)) := by
  subst hfs
  obtain ⟨ws, q0, hP, hD, hq, -, hb⟩ := z_set hz ha
  exact va_put C.1 C.2.1 C.2.2.2.2.1 hc.2.1 ty hc.2.2.1 hc.2.2.2 C.2.2.2.1 C.2.2.2.2.2.1 hP hD hS q0 hq hc.1 k hk (C.2.2.2.2.1 _ hlink) (fun _ h9 => h9) hfin (hc.2.2.1 k hk) hn hfit hl hdg (fun H1 locs1 hP1 hD1 hS1 => kk H1 locs1 _ (va_up_self f a _) (fun b h => va_up_ne f _ h) (hb _ H1 hP1 hD1) hS1)
theorem z_putF {ci N index : Nat} {Cn : String} {T : u_T} {ty : Nat → FieldType} {fs fs' : List Value} {k : Nat} {v : Value} (C : zC D cy p s m args meth c own cc nL) (hz : zH D A f H) (hS : va_S A H0 H locs) (ha : f a = some (.inr (ci, fs))) (hc : zL ci Cn T N ty) (hlink : Cond.fieldLink own index (T k).1 (T k).2.1 (T k).2.2.1 ∈ zTbl) (hk : k < N) (hfin : (T k).2.2.2 = true) (hin : meth.name = "<init>") (hdecl : (T k).1 = own) (hn : narrow (ty k) v = v) (hfit : fits (ty k) v = true) (hl : k < fs.length) (hfs : fs.set k v = fs') (hdg : decode cc pc = .ok (.putfield index, 3))
    (kk : ∀ (H1 : Heap) (locs1 : List Loc) (f1 : zM), f1 a = some (.inr (ci, fs')) → (∀ b, b ≠ a → f1 b = f b) → zH D A f1 H1 → va_S A H0 H1 locs1 → W p l e R s m args below meth c H1 locs1 cells slots Q (F0 m (pc + 3) ls rest)) : W p l e R s m args below meth c H locs cells slots Q (F0 m pc ls (v :: .ref a :: rest)) := by
  subst hfs
  obtain ⟨ws, q0, hP, hD, hq, -, hb⟩ := z_set hz ha
  exact va_putF C.1 C.2.1 C.2.2.2.2.1 hc.2.1 ty hc.2.2.1 hc.2.2.2 C.2.2.2.1 C.2.2.2.2.2.1 hP hD hS q0 hq hc.1 k hk (C.2.2.2.2.1 _ hlink) (fun _ h9 => h9) hfin hin hdecl (hc.2.2.1 k hk) hn hfit hl hdg (fun H1 locs1 hP1 hD1 hS1 => kk H1 locs1 _ (va_up_self f a _) (fun b h => va_up_ne f _ h) (hb _ H1 hP1 hD1) hS1)
theorem z_putN {ci N index : Nat} {Cn host : String} {T : u_T} {ty : Nat → FieldType} {fs fs' : List Value} {k : Nat} {v : Value} (C : zC D cy p s m args meth c own cc nL) (hz : zH D A f H) (hS : va_S A H0 H locs) (ha : f a = some (.inr (ci, fs))) (hc : zL ci Cn T N ty) (hlink : Cond.fieldLinkNest own index (T k).1 (T k).2.1 (T k).2.2.1 host ∈ zTbl) (hk : k < N) (hfin : (T k).2.2.2 = false) (hn : narrow (ty k) v = v) (hfit : fits (ty k) v = true) (hl : k < fs.length) (hfs : fs.set k v = fs') (hdg : decode cc pc = .ok (.putfield index, 3))
    (kk : ∀ (H1 : Heap) (locs1 : List Loc) (f1 : zM), f1 a = some (.inr (ci, fs')) → (∀ b, b ≠ a → f1 b = f b) → zH D A f1 H1 → va_S A H0 H1 locs1 → W p l e R s m args below meth c H1 locs1 cells slots Q (F0 m (pc + 3) ls rest)) : W p l e R s m args below meth c H locs cells slots Q (F0 m pc ls (v :: .ref a :: rest)) := by
  subst hfs
  obtain ⟨ws, q0, hP, hD, hq, -, hb⟩ := z_set hz ha
  exact va_putN C.1 C.2.1 C.2.2.2.2.1 hc.2.1 ty hc.2.2.1 hc.2.2.2 C.2.2.2.1 C.2.2.2.2.2.1 hP hD hS q0 hq hc.1 k hk (C.2.2.2.2.1 _ hlink) (fun _ h9 => h9) hfin (hc.2.2.1 k hk) hn hfit hl hdg (fun H1 locs1 hP1 hD1 hS1 => kk H1 locs1 _ (va_up_self f a _) (fun b h => va_up_ne f _ h) (hb _ H1 hP1 hD1) hS1)
theorem z_iald {n : Nat} {g : Nat → Int32} {i : Int32} (j : Nat) (C : zC D cy p s m args meth c own cc nL) (hz : zH D A f H) (ha : f a = some (.inl (cy 0, n, .inl g))) (hi : i = nI j) (hj : j < n) (hn : n < 2 ^ 31) (hdg : decode cc pc = .ok (.iaload, 1))
    (kk : W p l e R s m args below meth c H locs cells slots Q (F0 m (pc + 1) ls (.int (g j) :: rest))) : W p l e R s m args below meth c H locs cells slots Q (F0 m pc ls (.int i :: .ref a :: rest)) := by
  subst hi
  refine va_iald C.1 C.2.1 C.2.2.2.2.2.1 (z_one hz ha) 0 0 rfl rfl (vp_in_nI hj hn) hdg ?_
  rw [nI_clamp (Nat.lt_trans hj hn)]
  exact kk
theorem z_zald {n : Nat} {g : Nat → Int32} {i : Int32} (j : Nat) (C : zC D cy p s m args meth c own cc nL) (hz : zH D A f H) (ha : f a = some (.inl (cy 2, n, .inl g))) (hi : i = nI j) (hj : j < n) (hn : n < 2 ^ 31) (hdg : decode cc pc = .ok (.baload, 1))
    (kk : W p l e R s m args below meth c H locs cells slots Q (F0 m (pc + 1) ls (.int (g j) :: rest))) : W p l e R s m args below meth c H locs cells slots Q (F0 m pc ls (.int i :: .ref a :: rest)) := by
  subst hi
  refine va_zald C.1 C.2.1 C.2.2.2.2.2.1 (z_one hz ha) 0 2 rfl rfl (vp_in_nI hj hn) hdg ?_
  rw [nI_clamp (Nat.lt_trans hj hn)]
  exact kk
theorem z_lald {n : Nat} {g : Nat → Int64} {i : Int32} (j : Nat) (C : zC D cy p s m args meth c own cc nL) (hz : zH D A f H) (ha : f a = some (.inl (cy 1, n, .inr (.inl g)))) (hi : i = nI j) (hj : j < n) (hn : n < 2 ^ 31) (hdg : decode cc pc = .ok (.laload, 1))
    (kk : W p l e R s m args below meth c H locs cells slots Q (F0 m (pc + 1) ls (.long (g j) :: rest))) : W p l e R s m args below meth c H locs cells slots Q (F0 m pc ls (.int i :: .ref a :: rest)) := by
  subst hi
  refine va_lald C.1 C.2.1 C.2.2.2.2.2.1 (z_one hz ha) 0 1 rfl rfl (vp_in_nI hj hn) hdg ?_
  rw [nI_clamp (Nat.lt_trans hj hn)]
  exact kk
theorem z_iast {n : Nat} {g : Nat → Int32} {i : Int32} {x : Int32} (j : Nat) (C : zC D cy p s m args meth c own cc nL) (hz : zH D A f H) (hS : va_S A H0 H locs) (ha : f a = some (.inl (cy 0, n, .inl g))) (hi : i = nI j) (hj : j < n) (hn : n < 2 ^ 31) (hdg : decode cc pc = .ok (.iastore, 1))
    (kk : ∀ (H1 : Heap) (locs1 : List Loc) (f1 : zM), f1 a = some (.inl (cy 0, n, .inl (upd g j x))) → (∀ b, b ≠ a → f1 b = f b) → zH D A f1 H1 → va_S A H0 H1 locs1 → W p l e R s m args below meth c H1 locs1 cells slots Q (F0 m (pc + 1) ls rest)) : W p l e R s m args below meth c H locs cells slots Q (F0 m pc ls (.int x :: .int i :: .ref a :: rest)) := by
  subst hi
  obtain ⟨ws, q0, hP, hD, hq, -, hb⟩ := z_set hz ha
  refine va_iast C.1 C.2.1 C.2.2.2.2.2.1 hP hD hS q0 0 hq rfl (vp_in_nI hj hn) hdg (fun H1 locs1 hP1 hD1 hS1 => ?_)
  refine kk H1 locs1 _ ?_ (fun b h => va_up_ne f _ h) (hb _ H1 hP1 hD1) hS1
  rw [nI_clamp (Nat.lt_trans hj hn)]
  exact va_up_self f a _
theorem z_last {n : Nat} {g : Nat → Int64} {i : Int32} {x : Int64} (j : Nat) (C : zC D cy p s m args meth c own cc nL) (hz : zH D A f H) (hS : va_S A H0 H locs) (ha : f a = some (.inl (cy 1, n, .inr (.inl g)))) (hi : i = nI j) (hj : j < n) (hn : n < 2 ^ 31) (hdg : decode cc pc = .ok (.lastore, 1))
    (kk : ∀ (H1 : Heap) (locs1 : List Loc) (f1 : zM), f1 a = some (.inl (cy 1, n, .inr (.inl (vp_updL g j x)))) → (∀ b, b ≠ a → f1 b = f b) → zH D A f1 H1 → va_S A H0 H1 locs1 → W p l e R s m args below meth c H1 locs1 cells slots Q (F0 m (pc + 1) ls rest)) : W p l e R s m args below meth c H locs cells slots Q (F0 m pc ls (.long x :: .int i :: .ref a :: rest)) := by
  subst hi
  obtain ⟨ws, q0, hP, hD, hq, -, hb⟩ := z_set hz ha
  refine va_last C.1 C.2.1 C.2.2.2.2.2.1 hP hD hS q0 1 hq rfl (vp_in_nI hj hn) hdg (fun H1 locs1 hP1 hD1 hS1 => ?_)
  refine kk H1 locs1 _ ?_ (fun b h => va_up_ne f _ h) (hb _ H1 hP1 hD1) hS1
  rw [nI_clamp (Nat.lt_trans hj hn)]
  exact va_up_self f a _
theorem z_alen {cA : ClassId} {x : vp_A} {v : Int32} (t0 : Nat) {ty : FieldType} (C : zC D cy p s m args meth c own cc nL) (hz : zH D A f H) (ha : f a = some (.inl (cA, x))) (ht : (zT cy)[t0]? = some (cA, ty)) (hv : nI x.1 = v) (hdg : decode cc pc = .ok (.arraylength, 1))
    (kk : W p l e R s m args below meth c H locs cells slots Q (F0 m (pc + 1) ls (.int v :: rest))) : W p l e R s m args below meth c H locs cells slots Q (F0 m pc ls (.ref a :: rest)) :=
  va_alen C.1 C.2.1 C.2.2.2.2.2.1 (z_one hz ha) 0 t0 rfl ht hv hdg kk
theorem z_aldq {n t0 : Nat} {Cn : String} {g : Nat → Option Nat} {i : Int32} (j : Nat) (C : zC D cy p s m args meth c own cc nL) (hz : zH D A f H) (ha : f a = some (.inl (cy t0, n, .inr (.inr (.inr (.inr g)))))) (ht : (zT cy)[t0]? = some (cy t0, .object Cn)) (hi : i = nI j) (hj : j < n) (hn : n < 2 ^ 31) (hdg : decode cc pc = .ok (.aaload, 1))
    (kk : W p l e R s m args below meth c H locs cells slots Q (F0 m (pc + 1) ls (va_rf (g j) :: rest))) : W p l e R s m args below meth c H locs cells slots Q (F0 m pc ls (.int i :: .ref a :: rest)) := by
  subst hi
  refine va_aldq C.1 C.2.1 C.2.2.2.2.2.1 (z_one hz ha) 0 t0 rfl ht (vp_in_nI hj hn) hdg ?_
  rw [nI_clamp (Nat.lt_trans hj hn)]
  exact kk
theorem z_astq {n t0 v ci N : Nat} {Cn : String} {T : u_T} {ty : Nat → FieldType} {vs : List Value} {g : Nat → Option Nat} {i : Int32} (j : Nat) (C : zC D cy p s m args meth c own cc nL) (hz : zH D A f H) (hS : va_S A H0 H locs) (ha : f a = some (.inl (cy t0, n, .inr (.inr (.inr (.inr g)))))) (ht : (zT cy)[t0]? = some (cy t0, .object Cn)) (hv : f v = some (.inr (ci, vs))) (hc : zL ci Cn T N ty) (hi : i = nI j) (hj : j < n) (hn : n < 2 ^ 31) (hdg : decode cc pc = .ok (.aastore, 1))
    (kk : ∀ (H1 : Heap) (locs1 : List Loc) (f1 : zM), f1 a = some (.inl (cy t0, n, .inr (.inr (.inr (.inr (va_up g j (some v))))))) → (∀ b, b ≠ a → f1 b = f b) → zH D A f1 H1 → va_S A H0 H1 locs1 → W p l e R s m args below meth c H1 locs1 cells slots Q (F0 m (pc + 1) ls rest)) : W p l e R s m args below meth c H locs cells slots Q (F0 m pc ls (.ref v :: .int i :: .ref a :: rest)) := by
  subst hi
  obtain ⟨ws, q0, hP, hD, hq, hall, hb⟩ := z_set hz ha
  obtain ⟨qk, hqk⟩ := hall v _ hv
  refine va_astq C.1 C.2.1 C.2.2.2.2.2.1 hP hD hS q0 t0 qk ci hq ht hqk hc.1 (vp_in_nI hj hn) hdg (fun H1 locs1 hP1 hD1 hS1 => ?_)
  refine kk H1 locs1 _ ?_ (fun b h => va_up_ne f _ h) (hb _ H1 hP1 hD1) hS1
  rw [nI_clamp (Nat.lt_trans hj hn)]
  exact va_up_self f a _
theorem z_new {ci N index : Nat} {Cn : String} {T : u_T} {ty : Nat → FieldType} {fs : List Value} (C : zC D cy p s m args meth c own cc nL) (hz : zH D A f H) (hS : va_S A H0 H locs) (hA : ∀ q, H0.size ≤ q → A q) (hc : zL ci Cn T N ty) (hcl : Cond.classLink own index Cn ∈ zTbl) (hinst : Cond.instantiable Cn N ∈ zTbl) (hini : Cond.initialized Cn ∈ zTbl) (hfs : ∀ j, j < N → defaultValue (ty j) = vp_V fs j) (hcells : cells + 1 ≤ R.cells) (hslots : slots + N ≤ R.slots) (hdg : decode cc pc = .ok (.new index, 3))
    (kk : ∀ (q : Nat) (H1 : Heap) (f1 : zM), f q = none → f1 q = some (.inr (ci, fs)) → (∀ b, b ≠ q → f1 b = f b) → zH D A f1 H1 → va_S A H0 H1 locs → W p l e R s m args below meth c H1 locs (cells + 1) (slots + N) Q (F0 m (pc + 3) ls (.ref q :: rest))) : W p l e R s m args below meth c H locs cells slots Q (F0 m pc ls rest) := by
  obtain ⟨ws, hP, hD, hb⟩ := z_push hz
  refine va_new C.1 C.2.1 C.2.2.2.2.1 hc.2.1 ty hc.2.2.1 C.2.2.2.1 (C.2.2.2.2.1 _ hcl) (C.2.2.2.2.1 _ hinst) (C.2.2.2.2.1 _ hini) C.2.2.2.2.2.1 hP hD hS hA hc.1 hfs hcells hslots hdg (fun q H1 hP1 hD1 hS1 => ?_)
  obtain ⟨hn, hz1⟩ := hb q _ H1 hP1 hD1
  exact kk q H1 _ hn (va_up_self f q _) (fun b h => va_up_ne f _ h) hz1 hS1
theorem z_cy {D : va_G} {cl : List vw_C} {tys : List (ClassId × FieldType)} {cA cB : ClassId} {ty : FieldType} {U : State} {n : Nat} (hK : va_K D cl (tys ++ [(cA, ty)]) U) (ht : tys[n]? = some (cB, ty)) : cA = cB := by
  have h1 := (hK.2 tys.length (cA, ty) (by simp)).2
  have h2 := (hK.2 n (cB, ty) (by rw [List.getElem?_append_left (List.getElem?_eq_some_iff.mp ht).1]; exact ht)).2
  cases ty with
  | object C =>
    obtain ⟨_, _, _, _, _, g4⟩ := h1
    obtain ⟨_, _, _, _, _, g5⟩ := h2
    exact Option.some.inj (g4.symm.trans g5)
  | _ => exact Option.some.inj (Eq.trans (Eq.symm h1) h2)
theorem z_newa {t0 N' : Nat} {atype : ArrayType} {ty : FieldType} {n : Int32} {x : (Nat → Int32) ⊕ (Nat → Int64) ⊕ (Nat → UInt32) ⊕ (Nat → UInt64) ⊕ (Nat → Option Nat)} (C : zC D cy p s m args meth c own cc nL) (hz : zH D A f H) (hS : va_S A H0 H locs) (hA : ∀ q, H0.size ≤ q → A q) (hty : newarray.typeOf atype = ty) (harr : Cond.arrayClass ty ∈ zTbl) (ht : (zT cy)[t0]? = some (cy t0, ty)) (ha : ∀ cA : ClassId, vp_cell cA (N', x) = arrV cA N' (fun _ => defaultValue ty)) (hn : n = nI N') (hN : N' < 2 ^ 20) (hcb : componentBytes ty ≤ 8) (hcells : cells + 1 ≤ R.cells) (hslots : slots + N' ≤ R.slots) (hdg : decode cc pc = .ok (.newarray atype, 2))
    (kk : ∀ (q : Nat) (H1 : Heap) (f1 : zM), f q = none → f1 q = some (.inl (cy t0, N', x)) → (∀ b, b ≠ q → f1 b = f b) → zH D A f1 H1 → va_S A H0 H1 locs → W p l e R s m args below meth c H1 locs (cells + 1) (slots + N') Q (F0 m (pc + 2) ls (.ref q :: rest))) : W p l e R s m args below meth c H locs cells slots Q (F0 m pc ls (.int n :: rest)) := by
  subst hty
  subst hn
  obtain ⟨ws, hP, hD, hb⟩ := z_push hz
  refine va_newa (a0 := (N', x)) C.1 C.2.1 (C.2.2.2.2.1 _ harr) rfl C.2.2.2.2.2.1 hP hD hS hA ha (nI_pos (by omega)) (nI_clamp (by omega)) ?_ hcells hslots hdg (fun q cA H1 hK1 hP1 hD1 hS1 => ?_)
  · exact Nat.le_trans (Nat.mul_le_mul (Nat.le_of_lt hN) hcb) (Nat.le_of_ble_eq_true rfl)
  · have hcA := z_cy hK1 ht
    subst hcA
    obtain ⟨hn, hz1⟩ := hb q _ H1 hP1 hD1
    exact kk q H1 _ hn (va_up_self f q _) (fun b h => va_up_ne f _ h) hz1 hS1
theorem z_newq {t0 N' index : Nat} {Cn : String} {n : Int32} (C : zC D cy p s m args meth c own cc nL) (hz : zH D A f H) (hS : va_S A H0 H locs) (hA : ∀ q, H0.size ≤ q → A q) (hcl : Cond.classLink own index Cn ∈ zTbl) (hov : Cond.arrayOver (.object Cn) ∈ zTbl) (ht : (zT cy)[t0]? = some (cy t0, .object Cn)) (hn : n = nI N') (hN : N' < 2 ^ 20) (hcells : cells + 1 ≤ R.cells) (hslots : slots + N' ≤ R.slots) (hdg : decode cc pc = .ok (.anewarray index, 3))
    (kk : ∀ (q : Nat) (H1 : Heap) (f1 : zM), f q = none → f1 q = some (.inl (cy t0, N', .inr (.inr (.inr (.inr (fun _ => none)))))) → (∀ b, b ≠ q → f1 b = f b) → zH D A f1 H1 → va_S A H0 H1 locs → W p l e R s m args below meth c H1 locs (cells + 1) (slots + N') Q (F0 m (pc + 3) ls (.ref q :: rest))) : W p l e R s m args below meth c H locs cells slots Q (F0 m pc ls (.int n :: rest)) := by
  subst hn
  obtain ⟨ws, hP, hD, hb⟩ := z_push hz
  refine va_newq C.1 C.2.1 C.2.2.2.1 (C.2.2.2.2.1 _ hcl) (va_AO.of (C.2.2.2.2.1 _ hov)) C.2.2.2.2.2.1 hP hD hS hA (nI_pos (by omega)) (nI_clamp (by omega)) (by omega) hcells hslots hdg (fun q cA H1 hK1 hP1 hD1 hS1 => ?_)
  have hcA := z_cy hK1 ht
  subst hcA
  obtain ⟨hn, hz1⟩ := hb q _ H1 hP1 hD1
  exact kk q H1 _ hn (va_up_self f q _) (fun b h => va_up_ne f _ h) hz1 hS1
theorem z_objI {idx : Nat} {lv : List (Nat × Value)} (C : zC D cy p s m args meth c own cc nL) (hl : lv_has ls nL lv) (hlink : Cond.methodLink own idx Lib.objectInit ∈ zTbl) (hR1 : 1 ≤ R.frames) (hR2 : 12 ≤ R.locals) (hdg : decode cc pc = .ok (.invokespecial idx, 3))
    (kk : W p l e R s m args below meth c H locs cells slots Q (F0 m (pc + 3) ls [])) : W p l e R s m args below meth c H locs cells slots Q (F0 m pc ls [.ref a]) :=
  W.objInit C.1 C.2.1 C.2.2.2.1 (C.2.2.2.2.1 _ hlink) (C.2.2.2.2.1 _ mI_yObj) (C.2.2.2.2.1 _ mC_yObj) rfl (by rw [C.2.2.1]; exact hl.1) rfl hdg hR1 hR2 kk
theorem z_callVi {y : MethodName} {bytes : ByteArray} {maxL n index : Nat} {ret : Option FieldType} {rm : Room} {b : Addr} {As st : List Value} {Cn : String} {post : Int32 → zM → Prop} {ci N : Nat} {T : u_T} {ty : Nat → FieldType} {fs : List Value} {lv : List (Nat × Value)} (C : zC D cy p s m args meth c own cc nL) (hz : zH D A f H) (hS : va_S A H0 H locs) (hA : ∀ q, H0.size ≤ q → A q) (hl : lv_has ls nL lv) (hM : zCi l D cy y bytes maxL ret rm (.ref b :: As) f post) (hy : zY y bytes maxL ret n Cn) (hlink : Cond.methodLink own index y ∈ zTbl) (hb : f b = some (.inr (ci, fs))) (hcl : zL ci Cn T N ty) (hn : As.length = n) (hst : st = As.reverse ++ .ref b :: rest) (hW : (rest.map fun v => v.category).sum ≤ 8) (hR : rm.frames + 1 ≤ R.frames ∧ 8 + (maxL + 11) + rm.locals ≤ R.locals) (hf : cells + rm.cells ≤ R.cells ∧ slots + rm.slots ≤ R.slots) (hdg : decode cc pc = .ok (.invokevirtual index, 3))
    (kk : ∀ (r : Int32) (f1 : zM) (H1 : Heap) (locs1 : List Loc), post r f1 → zH D A f1 H1 → va_S A H0 H1 locs1 → W p l e R s m args below meth c H1 locs1 (cells + rm.cells) (slots + rm.slots) Q (F0 m (pc + 3) ls (.int r :: rest))) : W p l e R s m args below meth c H locs cells slots Q (F0 m pc ls st) := by
  obtain ⟨y1, y2, y3, y4, y5, y6, y7, y8⟩ := hy
  subst y5
  have hG : GoodIn zTbl [Cond.code y bytes maxL ret] := fun w h => by
    rw [List.mem_singleton.mp h]
    exact ⟨y1, Or.inl rfl⟩
  have hF := z_in hz hS hA
  have hc9 := C.2.2.2.2.1
  refine va_calli (va_runV (As := As) (rest := rest) ⟨C.1, C.2.1, C.2.2.1, C.2.2.2.1, hc9⟩ (hM H.size) ⟨callB_of n hc9 hG rfl rfl rfl (hc9 _ y4) (hc9 _ hlink) ⟨y6, y7, y8⟩ hR, hc9 _ y2, hc9 _ y3⟩ ⟨zPc_blind, va_recv C.2.2.2.2.2.1 (z_one hz hb) (ci := ci) (q0 := 0) hcl.1 rfl, zPc_at hz C.2.2.2.2.2.1 C.2.2.2.2.2.2.1⟩ rfl hn hl.1 hst (lv_room hW) hdg hf) hS (fun q _ h => hF q h) hF (fun r u t H1 locs1 ht hvm hp hB hz1 hk1 hS1 => ?_)
  refine kk r u H1 locs1 hp ?_ hS1
  have hB2 : zH D (zA f H.size) u H1 := by rw [← ht]; exact hB
  exact z_mono hB2 hF
theorem z_callVl {y : MethodName} {bytes : ByteArray} {maxL n index : Nat} {ret : Option FieldType} {rm : Room} {b : Addr} {As st : List Value} {Cn : String} {post : Int64 → zM → Prop} {ci N : Nat} {T : u_T} {ty : Nat → FieldType} {fs : List Value} {lv : List (Nat × Value)} (C : zC D cy p s m args meth c own cc nL) (hz : zH D A f H) (hS : va_S A H0 H locs) (hA : ∀ q, H0.size ≤ q → A q) (hl : lv_has ls nL lv) (hM : zCl l D cy y bytes maxL ret rm (.ref b :: As) f post) (hy : zY y bytes maxL ret n Cn) (hlink : Cond.methodLink own index y ∈ zTbl) (hb : f b = some (.inr (ci, fs))) (hcl : zL ci Cn T N ty) (hn : As.length = n) (hst : st = As.reverse ++ .ref b :: rest) (hW : (rest.map fun v => v.category).sum ≤ 8) (hR : rm.frames + 1 ≤ R.frames ∧ 8 + (maxL + 11) + rm.locals ≤ R.locals) (hf : cells + rm.cells ≤ R.cells ∧ slots + rm.slots ≤ R.slots) (hdg : decode cc pc = .ok (.invokevirtual index, 3))
    (kk : ∀ (r : Int64) (f1 : zM) (H1 : Heap) (locs1 : List Loc), post r f1 → zH D A f1 H1 → va_S A H0 H1 locs1 → W p l e R s m args below meth c H1 locs1 (cells + rm.cells) (slots + rm.slots) Q (F0 m (pc + 3) ls (.long r :: rest))) : W p l e R s m args below meth c H locs cells slots Q (F0 m pc ls st) := by
  obtain ⟨y1, y2, y3, y4, y5, y6, y7, y8⟩ := hy
  subst y5
  have hG : GoodIn zTbl [Cond.code y bytes maxL ret] := fun w h => by
    rw [List.mem_singleton.mp h]
    exact ⟨y1, Or.inl rfl⟩
  have hF := z_in hz hS hA
  have hc9 := C.2.2.2.2.1
  refine va_calll (va_runV (As := As) (rest := rest) ⟨C.1, C.2.1, C.2.2.1, C.2.2.2.1, hc9⟩ (hM H.size) ⟨callB_of n hc9 hG rfl rfl rfl (hc9 _ y4) (hc9 _ hlink) ⟨y6, y7, y8⟩ hR, hc9 _ y2, hc9 _ y3⟩ ⟨zPc_blind, va_recv C.2.2.2.2.2.1 (z_one hz hb) (ci := ci) (q0 := 0) hcl.1 rfl, zPc_at hz C.2.2.2.2.2.1 C.2.2.2.2.2.2.1⟩ rfl hn hl.1 hst (lv_room hW) hdg hf) hS (fun q _ h => hF q h) hF (fun r u t H1 locs1 ht hvm hp hB hz1 hk1 hS1 => ?_)
  refine kk r u H1 locs1 hp ?_ hS1
  have hB2 : zH D (zA f H.size) u H1 := by rw [← ht]; exact hB
  exact z_mono hB2 hF
theorem z_callVv {y : MethodName} {bytes : ByteArray} {maxL n index : Nat} {ret : Option FieldType} {rm : Room} {b : Addr} {As st : List Value} {Cn : String} {post : zM → Prop} {ci N : Nat} {T : u_T} {ty : Nat → FieldType} {fs : List Value} {lv : List (Nat × Value)} (C : zC D cy p s m args meth c own cc nL) (hz : zH D A f H) (hS : va_S A H0 H locs) (hA : ∀ q, H0.size ≤ q → A q) (hl : lv_has ls nL lv) (hM : zCv l D cy y bytes maxL ret rm (.ref b :: As) f post) (hy : zY y bytes maxL ret n Cn) (hlink : Cond.methodLink own index y ∈ zTbl) (hb : f b = some (.inr (ci, fs))) (hcl : zL ci Cn T N ty) (hn : As.length = n) (hst : st = As.reverse ++ .ref b :: rest) (hW : (rest.map fun v => v.category).sum ≤ 8) (hR : rm.frames + 1 ≤ R.frames ∧ 8 + (maxL + 11) + rm.locals ≤ R.locals) (hf : cells + rm.cells ≤ R.cells ∧ slots + rm.slots ≤ R.slots) (hdg : decode cc pc = .ok (.invokevirtual index, 3))
    (kk : ∀ (f1 : zM) (H1 : Heap) (locs1 : List Loc), post f1 → zH D A f1 H1 → va_S A H0 H1 locs1 → W p l e R s m args below meth c H1 locs1 (cells + rm.cells) (slots + rm.slots) Q (F0 m (pc + 3) ls rest)) : W p l e R s m args below meth c H locs cells slots Q (F0 m pc ls st) := by
  obtain ⟨y1, y2, y3, y4, y5, y6, y7, y8⟩ := hy
  subst y5
  have hG : GoodIn zTbl [Cond.code y bytes maxL ret] := fun w h => by
    rw [List.mem_singleton.mp h]
    exact ⟨y1, Or.inl rfl⟩
  have hF := z_in hz hS hA
  have hc9 := C.2.2.2.2.1
  refine va_callv (va_runV (As := As) (rest := rest) ⟨C.1, C.2.1, C.2.2.1, C.2.2.2.1, hc9⟩ (hM H.size) ⟨callB_of n hc9 hG rfl rfl rfl (hc9 _ y4) (hc9 _ hlink) ⟨y6, y7, y8⟩ hR, hc9 _ y2, hc9 _ y3⟩ ⟨zPc_blind, va_recv C.2.2.2.2.2.1 (z_one hz hb) (ci := ci) (q0 := 0) hcl.1 rfl, zPc_at hz C.2.2.2.2.2.1 C.2.2.2.2.2.2.1⟩ rfl hn hl.1 hst (lv_room hW) hdg hf) hS (fun q _ h => hF q h) hF (fun u t H1 locs1 ht hvm hp hB hz1 hk1 hS1 => ?_)
  refine kk u H1 locs1 hp ?_ hS1
  have hB2 : zH D (zA f H.size) u H1 := by rw [← ht]; exact hB
  exact z_mono hB2 hF
theorem z_callVq {y : MethodName} {bytes : ByteArray} {maxL n index : Nat} {ret : Option FieldType} {rm : Room} {b : Addr} {As st : List Value} {Cn : String} {post : Option Nat → zM → Prop} {ci N : Nat} {T : u_T} {ty : Nat → FieldType} {fs : List Value} {lv : List (Nat × Value)} (C : zC D cy p s m args meth c own cc nL) (hz : zH D A f H) (hS : va_S A H0 H locs) (hA : ∀ q, H0.size ≤ q → A q) (hl : lv_has ls nL lv) (hM : zCq l D cy y bytes maxL ret rm (.ref b :: As) f post) (hy : zY y bytes maxL ret n Cn) (hlink : Cond.methodLink own index y ∈ zTbl) (hb : f b = some (.inr (ci, fs))) (hcl : zL ci Cn T N ty) (hn : As.length = n) (hst : st = As.reverse ++ .ref b :: rest) (hW : (rest.map fun v => v.category).sum ≤ 8) (hR : rm.frames + 1 ≤ R.frames ∧ 8 + (maxL + 11) + rm.locals ≤ R.locals) (hf : cells + rm.cells ≤ R.cells ∧ slots + rm.slots ≤ R.slots) (hdg : decode cc pc = .ok (.invokevirtual index, 3))
    (kk : ∀ (r : Option Nat) (f1 : zM) (H1 : Heap) (locs1 : List Loc), post r f1 → zH D A f1 H1 → va_S A H0 H1 locs1 → W p l e R s m args below meth c H1 locs1 (cells + rm.cells) (slots + rm.slots) Q (F0 m (pc + 3) ls (va_rf r :: rest))) : W p l e R s m args below meth c H locs cells slots Q (F0 m pc ls st) := by
  obtain ⟨y1, y2, y3, y4, y5, y6, y7, y8⟩ := hy
  subst y5
  have hG : GoodIn zTbl [Cond.code y bytes maxL ret] := fun w h => by
    rw [List.mem_singleton.mp h]
    exact ⟨y1, Or.inl rfl⟩
  have hF := z_in hz hS hA
  have hc9 := C.2.2.2.2.1
  refine va_callq (va_runV (As := As) (rest := rest) ⟨C.1, C.2.1, C.2.2.1, C.2.2.2.1, hc9⟩ (hM H.size) ⟨callB_of n hc9 hG rfl rfl rfl (hc9 _ y4) (hc9 _ hlink) ⟨y6, y7, y8⟩ hR, hc9 _ y2, hc9 _ y3⟩ ⟨zPc_blind, va_recv C.2.2.2.2.2.1 (z_one hz hb) (ci := ci) (q0 := 0) hcl.1 rfl, zPc_at hz C.2.2.2.2.2.1 C.2.2.2.2.2.2.1⟩ rfl hn hl.1 hst (lv_room hW) hdg hf) hS (fun q _ h => hF q h) hF (fun r u t H1 locs1 ht hvm hp hB hz1 hk1 hS1 => ?_)
  refine kk r u H1 locs1 hp ?_ hS1
  have hB2 : zH D (zA f H.size) u H1 := by rw [← ht]; exact hB
  exact z_mono hB2 hF
theorem z_callSi {y : MethodName} {bytes : ByteArray} {maxL n index : Nat} {ret : Option FieldType} {rm : Room} {As st : List Value} {Cn : String} {post : Int32 → zM → Prop} {lv : List (Nat × Value)} (C : zC D cy p s m args meth c own cc nL) (hz : zH D A f H) (hS : va_S A H0 H locs) (hA : ∀ q, H0.size ≤ q → A q) (hl : lv_has ls nL lv) (hM : zCi l D cy y bytes maxL ret rm As f post) (hy : zYs y bytes maxL ret n Cn) (hlink : Cond.methodLink own index y ∈ zTbl) (hn : As.length = n) (hst : st = As.reverse ++ rest) (hW : (rest.map fun v => v.category).sum ≤ 8) (hR : rm.frames + 1 ≤ R.frames ∧ 8 + (maxL + 11) + rm.locals ≤ R.locals) (hf : cells + rm.cells ≤ R.cells ∧ slots + rm.slots ≤ R.slots) (hdg : decode cc pc = .ok (.invokestatic index, 3))
    (kk : ∀ (r : Int32) (f1 : zM) (H1 : Heap) (locs1 : List Loc), post r f1 → zH D A f1 H1 → va_S A H0 H1 locs1 → W p l e R s m args below meth c H1 locs1 (cells + rm.cells) (slots + rm.slots) Q (F0 m (pc + 3) ls (.int r :: rest))) : W p l e R s m args below meth c H locs cells slots Q (F0 m pc ls st) := by
  obtain ⟨y1, y2, y4, y5, y6, y7, y8⟩ := hy
  subst y5
  have hG : GoodIn zTbl [Cond.code y bytes maxL ret] := fun w h => by
    rw [List.mem_singleton.mp h]
    exact ⟨y1, Or.inl rfl⟩
  have hF := z_in hz hS hA
  have hc9 := C.2.2.2.2.1
  refine va_calli (va_runS (As := As) (rest := rest) ⟨C.1, C.2.1, C.2.2.1, C.2.2.2.1, hc9⟩ (hM H.size) ⟨callB_of n hc9 hG rfl rfl rfl (hc9 _ y4) (hc9 _ hlink) ⟨y6, y7, y8⟩ hR, hc9 _ y2⟩ ⟨zPc_blind, zPc_at hz C.2.2.2.2.2.1 C.2.2.2.2.2.2.1⟩ rfl hn hl.1 hst (lv_room hW) hdg hf) hS (fun q _ h => hF q h) hF (fun r u t H1 locs1 ht hvm hp hB hz1 hk1 hS1 => ?_)
  refine kk r u H1 locs1 hp ?_ hS1
  have hB2 : zH D (zA f H.size) u H1 := by rw [← ht]; exact hB
  exact z_mono hB2 hF
theorem z_callSl {y : MethodName} {bytes : ByteArray} {maxL n index : Nat} {ret : Option FieldType} {rm : Room} {As st : List Value} {Cn : String} {post : Int64 → zM → Prop} {lv : List (Nat × Value)} (C : zC D cy p s m args meth c own cc nL) (hz : zH D A f H) (hS : va_S A H0 H locs) (hA : ∀ q, H0.size ≤ q → A q) (hl : lv_has ls nL lv) (hM : zCl l D cy y bytes maxL ret rm As f post) (hy : zYs y bytes maxL ret n Cn) (hlink : Cond.methodLink own index y ∈ zTbl) (hn : As.length = n) (hst : st = As.reverse ++ rest) (hW : (rest.map fun v => v.category).sum ≤ 8) (hR : rm.frames + 1 ≤ R.frames ∧ 8 + (maxL + 11) + rm.locals ≤ R.locals) (hf : cells + rm.cells ≤ R.cells ∧ slots + rm.slots ≤ R.slots) (hdg : decode cc pc = .ok (.invokestatic index, 3))
    (kk : ∀ (r : Int64) (f1 : zM) (H1 : Heap) (locs1 : List Loc), post r f1 → zH D A f1 H1 → va_S A H0 H1 locs1 → W p l e R s m args below meth c H1 locs1 (cells + rm.cells) (slots + rm.slots) Q (F0 m (pc + 3) ls (.long r :: rest))) : W p l e R s m args below meth c H locs cells slots Q (F0 m pc ls st) := by
  obtain ⟨y1, y2, y4, y5, y6, y7, y8⟩ := hy
  subst y5
  have hG : GoodIn zTbl [Cond.code y bytes maxL ret] := fun w h => by
    rw [List.mem_singleton.mp h]
    exact ⟨y1, Or.inl rfl⟩
  have hF := z_in hz hS hA
  have hc9 := C.2.2.2.2.1
  refine va_calll (va_runS (As := As) (rest := rest) ⟨C.1, C.2.1, C.2.2.1, C.2.2.2.1, hc9⟩ (hM H.size) ⟨callB_of n hc9 hG rfl rfl rfl (hc9 _ y4) (hc9 _ hlink) ⟨y6, y7, y8⟩ hR, hc9 _ y2⟩ ⟨zPc_blind, zPc_at hz C.2.2.2.2.2.1 C.2.2.2.2.2.2.1⟩ rfl hn hl.1 hst (lv_room hW) hdg hf) hS (fun q _ h => hF q h) hF (fun r u t H1 locs1 ht hvm hp hB hz1 hk1 hS1 => ?_)
  refine kk r u H1 locs1 hp ?_ hS1
  have hB2 : zH D (zA f H.size) u H1 := by rw [← ht]; exact hB
  exact z_mono hB2 hF
theorem z_callSv {y : MethodName} {bytes : ByteArray} {maxL n index : Nat} {ret : Option FieldType} {rm : Room} {As st : List Value} {Cn : String} {post : zM → Prop} {lv : List (Nat × Value)} (C : zC D cy p s m args meth c own cc nL) (hz : zH D A f H) (hS : va_S A H0 H locs) (hA : ∀ q, H0.size ≤ q → A q) (hl : lv_has ls nL lv) (hM : zCv l D cy y bytes maxL ret rm As f post) (hy : zYs y bytes maxL ret n Cn) (hlink : Cond.methodLink own index y ∈ zTbl) (hn : As.length = n) (hst : st = As.reverse ++ rest) (hW : (rest.map fun v => v.category).sum ≤ 8) (hR : rm.frames + 1 ≤ R.frames ∧ 8 + (maxL + 11) + rm.locals ≤ R.locals) (hf : cells + rm.cells ≤ R.cells ∧ slots + rm.slots ≤ R.slots) (hdg : decode cc pc = .ok (.invokestatic index, 3))
    (kk : ∀ (f1 : zM) (H1 : Heap) (locs1 : List Loc), post f1 → zH D A f1 H1 → va_S A H0 H1 locs1 → W p l e R s m args below meth c H1 locs1 (cells + rm.cells) (slots + rm.slots) Q (F0 m (pc + 3) ls rest)) : W p l e R s m args below meth c H locs cells slots Q (F0 m pc ls st) := by
  obtain ⟨y1, y2, y4, y5, y6, y7, y8⟩ := hy
  subst y5
  have hG : GoodIn zTbl [Cond.code y bytes maxL ret] := fun w h => by
    rw [List.mem_singleton.mp h]
    exact ⟨y1, Or.inl rfl⟩
  have hF := z_in hz hS hA
  have hc9 := C.2.2.2.2.1
  refine va_callv (va_runS (As := As) (rest := rest) ⟨C.1, C.2.1, C.2.2.1, C.2.2.2.1, hc9⟩ (hM H.size) ⟨callB_of n hc9 hG rfl rfl rfl (hc9 _ y4) (hc9 _ hlink) ⟨y6, y7, y8⟩ hR, hc9 _ y2⟩ ⟨zPc_blind, zPc_at hz C.2.2.2.2.2.1 C.2.2.2.2.2.2.1⟩ rfl hn hl.1 hst (lv_room hW) hdg hf) hS (fun q _ h => hF q h) hF (fun u t H1 locs1 ht hvm hp hB hz1 hk1 hS1 => ?_)
  refine kk u H1 locs1 hp ?_ hS1
  have hB2 : zH D (zA f H.size) u H1 := by rw [← ht]; exact hB
  exact z_mono hB2 hF
theorem z_callSq {y : MethodName} {bytes : ByteArray} {maxL n index : Nat} {ret : Option FieldType} {rm : Room} {As st : List Value} {Cn : String} {post : Option Nat → zM → Prop} {lv : List (Nat × Value)} (C : zC D cy p s m args meth c own cc nL) (hz : zH D A f H) (hS : va_S A H0 H locs) (hA : ∀ q, H0.size ≤ q → A q) (hl : lv_has ls nL lv) (hM : zCq l D cy y bytes maxL ret rm As f post) (hy : zYs y bytes maxL ret n Cn) (hlink : Cond.methodLink own index y ∈ zTbl) (hn : As.length = n) (hst : st = As.reverse ++ rest) (hW : (rest.map fun v => v.category).sum ≤ 8) (hR : rm.frames + 1 ≤ R.frames ∧ 8 + (maxL + 11) + rm.locals ≤ R.locals) (hf : cells + rm.cells ≤ R.cells ∧ slots + rm.slots ≤ R.slots) (hdg : decode cc pc = .ok (.invokestatic index, 3))
    (kk : ∀ (r : Option Nat) (f1 : zM) (H1 : Heap) (locs1 : List Loc), post r f1 → zH D A f1 H1 → va_S A H0 H1 locs1 → W p l e R s m args below meth c H1 locs1 (cells + rm.cells) (slots + rm.slots) Q (F0 m (pc + 3) ls (va_rf r :: rest))) : W p l e R s m args below meth c H locs cells slots Q (F0 m pc ls st) := by
  obtain ⟨y1, y2, y4, y5, y6, y7, y8⟩ := hy
  subst y5
  have hG : GoodIn zTbl [Cond.code y bytes maxL ret] := fun w h => by
    rw [List.mem_singleton.mp h]
    exact ⟨y1, Or.inl rfl⟩
  have hF := z_in hz hS hA
  have hc9 := C.2.2.2.2.1
  refine va_callq (va_runS (As := As) (rest := rest) ⟨C.1, C.2.1, C.2.2.1, C.2.2.2.1, hc9⟩ (hM H.size) ⟨callB_of n hc9 hG rfl rfl rfl (hc9 _ y4) (hc9 _ hlink) ⟨y6, y7, y8⟩ hR, hc9 _ y2⟩ ⟨zPc_blind, zPc_at hz C.2.2.2.2.2.1 C.2.2.2.2.2.2.1⟩ rfl hn hl.1 hst (lv_room hW) hdg hf) hS (fun q _ h => hF q h) hF (fun r u t H1 locs1 ht hvm hp hB hz1 hk1 hS1 => ?_)
  refine kk r u H1 locs1 hp ?_ hS1
  have hB2 : zH D (zA f H.size) u H1 := by rw [← ht]; exact hB
  exact z_mono hB2 hF
theorem z_callIv {y : MethodName} {bytes : ByteArray} {maxL n index : Nat} {ret : Option FieldType} {rm : Room} {b : Addr} {As st : List Value} {Cn : String} {post : zM → Prop} {lv : List (Nat × Value)} (C : zC D cy p s m args meth c own cc nL) (hz : zH D A f H) (hS : va_S A H0 H locs) (hA : ∀ q, H0.size ≤ q → A q) (hl : lv_has ls nL lv) (hM : zCv l D cy y bytes maxL none rm (.ref b :: As) f post) (hy : zYi y bytes maxL n Cn) (hlink : Cond.methodLink own index y ∈ zTbl) (hn : As.length = n) (hst : st = As.reverse ++ .ref b :: rest) (hW : (rest.map fun v => v.category).sum ≤ 8) (hR : rm.frames + 1 ≤ R.frames ∧ 8 + (maxL + 11) + rm.locals ≤ R.locals) (hf : cells + rm.cells ≤ R.cells ∧ slots + rm.slots ≤ R.slots) (hdg : decode cc pc = .ok (.invokespecial index, 3))
    (kk : ∀ (f1 : zM) (H1 : Heap) (locs1 : List Loc), post f1 → zH D A f1 H1 → va_S A H0 H1 locs1 → W p l e R s m args below meth c H1 locs1 (cells + rm.cells) (slots + rm.slots) Q (F0 m (pc + 3) ls rest)) : W p l e R s m args below meth c H locs cells slots Q (F0 m pc ls st) := by
  obtain ⟨y1, y2, y4, y9, y5, y6, y7, y8⟩ := hy
  subst y5
  have hG : GoodIn zTbl [Cond.code y bytes maxL none] := fun w h => by
    rw [List.mem_singleton.mp h]
    exact ⟨y1, Or.inl rfl⟩
  have hF := z_in hz hS hA
  have hc9 := C.2.2.2.2.1
  refine va_callv (va_runI (As := As) (rest := rest) ⟨C.1, C.2.1, C.2.2.1, C.2.2.2.1, hc9⟩ (hM H.size) ⟨callB_of n hc9 hG rfl rfl rfl (hc9 _ y4) (hc9 _ hlink) ⟨y6, y7, y8⟩ hR, y9, hc9 _ y2⟩ ⟨zPc_blind, zPc_at hz C.2.2.2.2.2.1 C.2.2.2.2.2.2.1⟩ rfl hn hl.1 hst (lv_room hW) hdg hf) hS (fun q _ h => hF q h) hF (fun u t H1 locs1 ht hvm hp hB hz1 hk1 hS1 => ?_)
  refine kk u H1 locs1 hp ?_ hS1
  have hB2 : zH D (zA f H.size) u H1 := by rw [← ht]; exact hB
  exact z_mono hB2 hF
theorem z_callINv {y : MethodName} {bytes : ByteArray} {maxL n index : Nat} {ret : Option FieldType} {rm : Room} {b : Addr} {As st : List Value} {Cn : String} {post : zM → Prop} {host : String} {lv : List (Nat × Value)} (C : zC D cy p s m args meth c own cc nL) (hz : zH D A f H) (hS : va_S A H0 H locs) (hA : ∀ q, H0.size ≤ q → A q) (hl : lv_has ls nL lv) (hM : zCv l D cy y bytes maxL none rm (.ref b :: As) f post) (hy : zYi y bytes maxL n Cn) (hlink : Cond.methodLinkNest own index y host ∈ zTbl) (hn : As.length = n) (hst : st = As.reverse ++ .ref b :: rest) (hW : (rest.map fun v => v.category).sum ≤ 8) (hR : rm.frames + 1 ≤ R.frames ∧ 8 + (maxL + 11) + rm.locals ≤ R.locals) (hf : cells + rm.cells ≤ R.cells ∧ slots + rm.slots ≤ R.slots) (hdg : decode cc pc = .ok (.invokespecial index, 3))
    (kk : ∀ (f1 : zM) (H1 : Heap) (locs1 : List Loc), post f1 → zH D A f1 H1 → va_S A H0 H1 locs1 → W p l e R s m args below meth c H1 locs1 (cells + rm.cells) (slots + rm.slots) Q (F0 m (pc + 3) ls rest)) : W p l e R s m args below meth c H locs cells slots Q (F0 m pc ls st) := by
  obtain ⟨y1, y2, y4, y9, y5, y6, y7, y8⟩ := hy
  subst y5
  have hG : GoodIn zTbl [Cond.code y bytes maxL none] := fun w h => by
    rw [List.mem_singleton.mp h]
    exact ⟨y1, Or.inl rfl⟩
  have hF := z_in hz hS hA
  have hc9 := C.2.2.2.2.1
  refine va_callv (va_runIN (As := As) (rest := rest) ⟨C.1, C.2.1, C.2.2.1, C.2.2.2.1, hc9⟩ (hM H.size) ⟨va_cnB n hc9 hG rfl rfl rfl (va_Nw.of rfl (hc9 _ hlink)) (hc9 _ y4) ⟨y6, y7, y8⟩ hR, y9, hc9 _ y2⟩ ⟨zPc_blind, zPc_at hz C.2.2.2.2.2.1 C.2.2.2.2.2.2.1⟩ rfl hn hl.1 hst (lv_room hW) hdg hf) hS (fun q _ h => hF q h) hF (fun u t H1 locs1 ht hvm hp hB hz1 hk1 hS1 => ?_)
  refine kk u H1 locs1 hp ?_ hS1
  have hB2 : zH D (zA f H.size) u H1 := by rw [← ht]; exact hB
  exact z_mono hB2 hF
end ZW
end
