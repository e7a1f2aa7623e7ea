-- ===== PART A: goes FIRST, ahead of the names: the tables' words, and 'selects' of the private methods out of them =====
/-- a private method of a class that the tables say can be made, by its rows of tables_1 -/
def lw_okq (q : MethodName × Nat) : Prop := (q.1.cls ≠ "java/lang/invoke/MethodHandle" ∧ q.1.cls ≠ "java/lang/invoke/VarHandle") ∧ Cond.instantiable q.1.cls q.2 ∈ tables_1 ∧ Cond.privateMethod q.1 ∈ tables_1 ∧ Cond.instanceMethod q.1 ∈ tables_1
theorem lw_p0 : lw_okq (⟨"KindRows$Figures", "hashOf", "(LKindRows$Figure;)I"⟩, 3) := ⟨⟨by decide +kernel, by decide +kernel⟩, List.mem_of_getElem? (i := 45) (by decide +kernel), List.mem_of_getElem? (i := 211) (by decide +kernel), List.mem_of_getElem? (i := 212) (by decide +kernel)⟩
theorem lw_p1 : lw_okq (⟨"KindRows$Figures", "hashOfNumbered", "(J)I"⟩, 3) := ⟨⟨by decide +kernel, by decide +kernel⟩, List.mem_of_getElem? (i := 45) (by decide +kernel), List.mem_of_getElem? (i := 215) (by decide +kernel), List.mem_of_getElem? (i := 216) (by decide +kernel)⟩
theorem lw_p2 : lw_okq (⟨"KindRows$Figures", "rank", "(LKindRows$Figure;)V"⟩, 3) := ⟨⟨by decide +kernel, by decide +kernel⟩, List.mem_of_getElem? (i := 45) (by decide +kernel), List.mem_of_getElem? (i := 223) (by decide +kernel), List.mem_of_getElem? (i := 224) (by decide +kernel)⟩
theorem lw_p3 : lw_okq (⟨"KindRows$Figures", "compare", "(LKindRows$Figure;LKindRows$Figure;)I"⟩, 3) := ⟨⟨by decide +kernel, by decide +kernel⟩, List.mem_of_getElem? (i := 45) (by decide +kernel), List.mem_of_getElem? (i := 227) (by decide +kernel), List.mem_of_getElem? (i := 228) (by decide +kernel)⟩
theorem lw_p4 : lw_okq (⟨"KindRows$Figures", "compareFrom", "(ILKindRows$Figure;LKindRows$Figure;)I"⟩, 3) := ⟨⟨by decide +kernel, by decide +kernel⟩, List.mem_of_getElem? (i := 45) (by decide +kernel), List.mem_of_getElem? (i := 234) (by decide +kernel), List.mem_of_getElem? (i := 235) (by decide +kernel)⟩
theorem lw_p5 : lw_okq (⟨"KindRows$Figures", "sortKey", "(IJ)J"⟩, 3) := ⟨⟨by decide +kernel, by decide +kernel⟩, List.mem_of_getElem? (i := 45) (by decide +kernel), List.mem_of_getElem? (i := 241) (by decide +kernel), List.mem_of_getElem? (i := 242) (by decide +kernel)⟩
theorem lw_p6 : lw_okq (⟨"KindRows", "numberAt", "(I)I"⟩, 11) := ⟨⟨by decide +kernel, by decide +kernel⟩, List.mem_of_getElem? (i := 14) (by decide +kernel), List.mem_of_getElem? (i := 292) (by decide +kernel), List.mem_of_getElem? (i := 293) (by decide +kernel)⟩
theorem lw_p7 : lw_okq (⟨"KindRows", "rowParts", "(III)[J"⟩, 11) := ⟨⟨by decide +kernel, by decide +kernel⟩, List.mem_of_getElem? (i := 14) (by decide +kernel), List.mem_of_getElem? (i := 296) (by decide +kernel), List.mem_of_getElem? (i := 297) (by decide +kernel)⟩
theorem lw_p8 : lw_okq (⟨"KindRows", "findFamily", "(I)LKindRows$Family;"⟩, 11) := ⟨⟨by decide +kernel, by decide +kernel⟩, List.mem_of_getElem? (i := 14) (by decide +kernel), List.mem_of_getElem? (i := 417) (by decide +kernel), List.mem_of_getElem? (i := 418) (by decide +kernel)⟩
theorem lw_p9 : lw_okq (⟨"KindRows", "findEnumeration", "(I)LKindRows$Enumeration;"⟩, 11) := ⟨⟨by decide +kernel, by decide +kernel⟩, List.mem_of_getElem? (i := 14) (by decide +kernel), List.mem_of_getElem? (i := 434) (by decide +kernel), List.mem_of_getElem? (i := 435) (by decide +kernel)⟩
theorem lw_p10 : lw_okq (⟨"KindRows", "memberNamed", "(LKindRows$Enumeration;I)I"⟩, 11) := ⟨⟨by decide +kernel, by decide +kernel⟩, List.mem_of_getElem? (i := 14) (by decide +kernel), List.mem_of_getElem? (i := 438) (by decide +kernel), List.mem_of_getElem? (i := 439) (by decide +kernel)⟩
theorem lw_p11 : lw_okq (⟨"KindRows", "findConstant", "(I)LKindRows$Constant;"⟩, 11) := ⟨⟨by decide +kernel, by decide +kernel⟩, List.mem_of_getElem? (i := 14) (by decide +kernel), List.mem_of_getElem? (i := 442) (by decide +kernel), List.mem_of_getElem? (i := 443) (by decide +kernel)⟩
theorem lw_p12 : lw_okq (⟨"KindRows", "homeOf", "(I)LKindRows$Enumeration;"⟩, 11) := ⟨⟨by decide +kernel, by decide +kernel⟩, List.mem_of_getElem? (i := 14) (by decide +kernel), List.mem_of_getElem? (i := 472) (by decide +kernel), List.mem_of_getElem? (i := 473) (by decide +kernel)⟩
theorem lw_p13 : lw_okq (⟨"KindRows", "drawBelow", "(I)I"⟩, 11) := ⟨⟨by decide +kernel, by decide +kernel⟩, List.mem_of_getElem? (i := 14) (by decide +kernel), List.mem_of_getElem? (i := 488) (by decide +kernel), List.mem_of_getElem? (i := 489) (by decide +kernel)⟩
theorem lw_p14 : lw_okq (⟨"KindRows$Keys", "placeOf", "(I)I"⟩, 3) := ⟨⟨by decide +kernel, by decide +kernel⟩, List.mem_of_getElem? (i := 70) (by decide +kernel), List.mem_of_getElem? (i := 521) (by decide +kernel), List.mem_of_getElem? (i := 522) (by decide +kernel)⟩
theorem lw_p15 : lw_okq (⟨"KindRows", "membersOfAll", "()I"⟩, 11) := ⟨⟨by decide +kernel, by decide +kernel⟩, List.mem_of_getElem? (i := 14) (by decide +kernel), List.mem_of_getElem? (i := 537) (by decide +kernel), List.mem_of_getElem? (i := 538) (by decide +kernel)⟩
def lw_privs_1 : List (MethodName × Nat) := [(⟨"KindRows$Figures", "hashOf", "(LKindRows$Figure;)I"⟩, 3), (⟨"KindRows$Figures", "hashOfNumbered", "(J)I"⟩, 3), (⟨"KindRows$Figures", "rank", "(LKindRows$Figure;)V"⟩, 3), (⟨"KindRows$Figures", "compare", "(LKindRows$Figure;LKindRows$Figure;)I"⟩, 3), (⟨"KindRows$Figures", "compareFrom", "(ILKindRows$Figure;LKindRows$Figure;)I"⟩, 3), (⟨"KindRows$Figures", "sortKey", "(IJ)J"⟩, 3), (⟨"KindRows", "numberAt", "(I)I"⟩, 11), (⟨"KindRows", "rowParts", "(III)[J"⟩, 11), (⟨"KindRows", "findFamily", "(I)LKindRows$Family;"⟩, 11), (⟨"KindRows", "findEnumeration", "(I)LKindRows$Enumeration;"⟩, 11), (⟨"KindRows", "memberNamed", "(LKindRows$Enumeration;I)I"⟩, 11), (⟨"KindRows", "findConstant", "(I)LKindRows$Constant;"⟩, 11), (⟨"KindRows", "homeOf", "(I)LKindRows$Enumeration;"⟩, 11), (⟨"KindRows", "drawBelow", "(I)I"⟩, 11), (⟨"KindRows$Keys", "placeOf", "(I)I"⟩, 3), (⟨"KindRows", "membersOfAll", "()I"⟩, 11)]
theorem lw_r1 : ∀ q ∈ lw_privs_1, lw_okq q := List.forall_mem_cons.mpr ⟨lw_p0, List.forall_mem_cons.mpr ⟨lw_p1, List.forall_mem_cons.mpr ⟨lw_p2, List.forall_mem_cons.mpr ⟨lw_p3, List.forall_mem_cons.mpr ⟨lw_p4, List.forall_mem_cons.mpr ⟨lw_p5, List.forall_mem_cons.mpr ⟨lw_p6, List.forall_mem_cons.mpr ⟨lw_p7, List.forall_mem_cons.mpr ⟨lw_p8, List.forall_mem_cons.mpr ⟨lw_p9, List.forall_mem_cons.mpr ⟨lw_p10, List.forall_mem_cons.mpr ⟨lw_p11, List.forall_mem_cons.mpr ⟨lw_p12, List.forall_mem_cons.mpr ⟨lw_p13, List.forall_mem_cons.mpr ⟨lw_p14, List.forall_mem_cons.mpr ⟨lw_p15, fun _ h => absurd h List.not_mem_nil⟩⟩⟩⟩⟩⟩⟩⟩⟩⟩⟩⟩⟩⟩⟩⟩
theorem lw_p16 : lw_okq (⟨"KindRowsModel", "begin", "()V"⟩, 27) := ⟨⟨by decide +kernel, by decide +kernel⟩, List.mem_of_getElem? (i := 545) (by decide +kernel), List.mem_of_getElem? (i := 650) (by decide +kernel), List.mem_of_getElem? (i := 651) (by decide +kernel)⟩
theorem lw_p17 : lw_okq (⟨"KindRowsModel", "start", "(I)V"⟩, 27) := ⟨⟨by decide +kernel, by decide +kernel⟩, List.mem_of_getElem? (i := 545) (by decide +kernel), List.mem_of_getElem? (i := 654) (by decide +kernel), List.mem_of_getElem? (i := 655) (by decide +kernel)⟩
theorem lw_p18 : lw_okq (⟨"KindRowsModel", "part", "(J)V"⟩, 27) := ⟨⟨by decide +kernel, by decide +kernel⟩, List.mem_of_getElem? (i := 545) (by decide +kernel), List.mem_of_getElem? (i := 664) (by decide +kernel), List.mem_of_getElem? (i := 665) (by decide +kernel)⟩
theorem lw_p19 : lw_okq (⟨"KindRowsModel", "made", "()I"⟩, 27) := ⟨⟨by decide +kernel, by decide +kernel⟩, List.mem_of_getElem? (i := 545) (by decide +kernel), List.mem_of_getElem? (i := 668) (by decide +kernel), List.mem_of_getElem? (i := 669) (by decide +kernel)⟩
theorem lw_p20 : lw_okq (⟨"KindRowsModel", "leastLike", "(I)I"⟩, 27) := ⟨⟨by decide +kernel, by decide +kernel⟩, List.mem_of_getElem? (i := 545) (by decide +kernel), List.mem_of_getElem? (i := 672) (by decide +kernel), List.mem_of_getElem? (i := 673) (by decide +kernel)⟩
theorem lw_p21 : lw_okq (⟨"KindRowsModel", "isFigurePart", "(I)Z"⟩, 27) := ⟨⟨by decide +kernel, by decide +kernel⟩, List.mem_of_getElem? (i := 545) (by decide +kernel), List.mem_of_getElem? (i := 676) (by decide +kernel), List.mem_of_getElem? (i := 677) (by decide +kernel)⟩
theorem lw_p22 : lw_okq (⟨"KindRowsModel", "cellOf", "(II)J"⟩, 27) := ⟨⟨by decide +kernel, by decide +kernel⟩, List.mem_of_getElem? (i := 545) (by decide +kernel), List.mem_of_getElem? (i := 680) (by decide +kernel), List.mem_of_getElem? (i := 681) (by decide +kernel)⟩
theorem lw_p23 : lw_okq (⟨"KindRowsModel", "likeOf", "(J)I"⟩, 27) := ⟨⟨by decide +kernel, by decide +kernel⟩, List.mem_of_getElem? (i := 545) (by decide +kernel), List.mem_of_getElem? (i := 684) (by decide +kernel), List.mem_of_getElem? (i := 685) (by decide +kernel)⟩
theorem lw_p24 : lw_okq (⟨"KindRowsModel", "hashOf", "(I)I"⟩, 27) := ⟨⟨by decide +kernel, by decide +kernel⟩, List.mem_of_getElem? (i := 545) (by decide +kernel), List.mem_of_getElem? (i := 689) (by decide +kernel), List.mem_of_getElem? (i := 690) (by decide +kernel)⟩
theorem lw_p25 : lw_okq (⟨"KindRowsModel", "fails", "(III)I"⟩, 27) := ⟨⟨by decide +kernel, by decide +kernel⟩, List.mem_of_getElem? (i := 545) (by decide +kernel), List.mem_of_getElem? (i := 700) (by decide +kernel), List.mem_of_getElem? (i := 701) (by decide +kernel)⟩
theorem lw_p26 : lw_okq (⟨"KindRowsModel", "isFigure", "(I)Z"⟩, 27) := ⟨⟨by decide +kernel, by decide +kernel⟩, List.mem_of_getElem? (i := 545) (by decide +kernel), List.mem_of_getElem? (i := 716) (by decide +kernel), List.mem_of_getElem? (i := 717) (by decide +kernel)⟩
theorem lw_p27 : lw_okq (⟨"KindRowsModel", "laid", "(I)I"⟩, 27) := ⟨⟨by decide +kernel, by decide +kernel⟩, List.mem_of_getElem? (i := 545) (by decide +kernel), List.mem_of_getElem? (i := 724) (by decide +kernel), List.mem_of_getElem? (i := 725) (by decide +kernel)⟩
theorem lw_p28 : lw_okq (⟨"KindRowsModel", "hasPlace", "(II)Z"⟩, 27) := ⟨⟨by decide +kernel, by decide +kernel⟩, List.mem_of_getElem? (i := 545) (by decide +kernel), List.mem_of_getElem? (i := 736) (by decide +kernel), List.mem_of_getElem? (i := 737) (by decide +kernel)⟩
theorem lw_p29 : lw_okq (⟨"KindRowsModel", "at", "(IIJ)J"⟩, 27) := ⟨⟨by decide +kernel, by decide +kernel⟩, List.mem_of_getElem? (i := 545) (by decide +kernel), List.mem_of_getElem? (i := 757) (by decide +kernel), List.mem_of_getElem? (i := 758) (by decide +kernel)⟩
theorem lw_p30 : lw_okq (⟨"KindRowsModel", "weightOf", "(I)J"⟩, 27) := ⟨⟨by decide +kernel, by decide +kernel⟩, List.mem_of_getElem? (i := 545) (by decide +kernel), List.mem_of_getElem? (i := 765) (by decide +kernel), List.mem_of_getElem? (i := 766) (by decide +kernel)⟩
theorem lw_p31 : lw_okq (⟨"KindRowsModel", "heavyOf", "(I)J"⟩, 27) := ⟨⟨by decide +kernel, by decide +kernel⟩, List.mem_of_getElem? (i := 545) (by decide +kernel), List.mem_of_getElem? (i := 769) (by decide +kernel), List.mem_of_getElem? (i := 770) (by decide +kernel)⟩
def lw_privs_2 : List (MethodName × Nat) := [(⟨"KindRowsModel", "begin", "()V"⟩, 27), (⟨"KindRowsModel", "start", "(I)V"⟩, 27), (⟨"KindRowsModel", "part", "(J)V"⟩, 27), (⟨"KindRowsModel", "made", "()I"⟩, 27), (⟨"KindRowsModel", "leastLike", "(I)I"⟩, 27), (⟨"KindRowsModel", "isFigurePart", "(I)Z"⟩, 27), (⟨"KindRowsModel", "cellOf", "(II)J"⟩, 27), (⟨"KindRowsModel", "likeOf", "(J)I"⟩, 27), (⟨"KindRowsModel", "hashOf", "(I)I"⟩, 27), (⟨"KindRowsModel", "fails", "(III)I"⟩, 27), (⟨"KindRowsModel", "isFigure", "(I)Z"⟩, 27), (⟨"KindRowsModel", "laid", "(I)I"⟩, 27), (⟨"KindRowsModel", "hasPlace", "(II)Z"⟩, 27), (⟨"KindRowsModel", "at", "(IIJ)J"⟩, 27), (⟨"KindRowsModel", "weightOf", "(I)J"⟩, 27), (⟨"KindRowsModel", "heavyOf", "(I)J"⟩, 27)]
theorem lw_r2 : ∀ q ∈ lw_privs_2, lw_okq q := List.forall_mem_cons.mpr ⟨lw_p16, List.forall_mem_cons.mpr ⟨lw_p17, List.forall_mem_cons.mpr ⟨lw_p18, List.forall_mem_cons.mpr ⟨lw_p19, List.forall_mem_cons.mpr ⟨lw_p20, List.forall_mem_cons.mpr ⟨lw_p21, List.forall_mem_cons.mpr ⟨lw_p22, List.forall_mem_cons.mpr ⟨lw_p23, List.forall_mem_cons.mpr ⟨lw_p24, List.forall_mem_cons.mpr ⟨lw_p25, List.forall_mem_cons.mpr ⟨lw_p26, List.forall_mem_cons.mpr ⟨lw_p27, List.forall_mem_cons.mpr ⟨lw_p28, List.forall_mem_cons.mpr ⟨lw_p29, List.forall_mem_cons.mpr ⟨lw_p30, List.forall_mem_cons.mpr ⟨lw_p31, fun _ h => absurd h List.not_mem_nil⟩⟩⟩⟩⟩⟩⟩⟩⟩⟩⟩⟩⟩⟩⟩⟩
theorem lw_p32 : lw_okq (⟨"KindRowsModel", "ordered", "(II)I"⟩, 27) := ⟨⟨by decide +kernel, by decide +kernel⟩, List.mem_of_getElem? (i := 545) (by decide +kernel), List.mem_of_getElem? (i := 791) (by decide +kernel), List.mem_of_getElem? (i := 792) (by decide +kernel)⟩
theorem lw_p33 : lw_okq (⟨"KindRowsModel", "compared", "(II)I"⟩, 27) := ⟨⟨by decide +kernel, by decide +kernel⟩, List.mem_of_getElem? (i := 545) (by decide +kernel), List.mem_of_getElem? (i := 795) (by decide +kernel), List.mem_of_getElem? (i := 796) (by decide +kernel)⟩
theorem lw_p34 : lw_okq (⟨"KindRowsModel", "byRows", "(II)I"⟩, 27) := ⟨⟨by decide +kernel, by decide +kernel⟩, List.mem_of_getElem? (i := 545) (by decide +kernel), List.mem_of_getElem? (i := 802) (by decide +kernel), List.mem_of_getElem? (i := 803) (by decide +kernel)⟩
theorem lw_p35 : lw_okq (⟨"KindRowsModel", "tagOf", "(II)I"⟩, 27) := ⟨⟨by decide +kernel, by decide +kernel⟩, List.mem_of_getElem? (i := 545) (by decide +kernel), List.mem_of_getElem? (i := 824) (by decide +kernel), List.mem_of_getElem? (i := 825) (by decide +kernel)⟩
theorem lw_p36 : lw_okq (⟨"KindRowsModel", "constantOf", "(II)I"⟩, 27) := ⟨⟨by decide +kernel, by decide +kernel⟩, List.mem_of_getElem? (i := 545) (by decide +kernel), List.mem_of_getElem? (i := 839) (by decide +kernel), List.mem_of_getElem? (i := 840) (by decide +kernel)⟩
theorem lw_p37 : lw_okq (⟨"KindRowsModel", "isConstant", "(I)Z"⟩, 27) := ⟨⟨by decide +kernel, by decide +kernel⟩, List.mem_of_getElem? (i := 545) (by decide +kernel), List.mem_of_getElem? (i := 851) (by decide +kernel), List.mem_of_getElem? (i := 852) (by decide +kernel)⟩
theorem lw_p38 : lw_okq (⟨"KindRowsModel", "constantAt", "(II)I"⟩, 27) := ⟨⟨by decide +kernel, by decide +kernel⟩, List.mem_of_getElem? (i := 545) (by decide +kernel), List.mem_of_getElem? (i := 861) (by decide +kernel), List.mem_of_getElem? (i := 862) (by decide +kernel)⟩
theorem lw_p39 : lw_okq (⟨"KindRowsModel", "keyOf", "(I)I"⟩, 27) := ⟨⟨by decide +kernel, by decide +kernel⟩, List.mem_of_getElem? (i := 545) (by decide +kernel), List.mem_of_getElem? (i := 882) (by decide +kernel), List.mem_of_getElem? (i := 883) (by decide +kernel)⟩
def lw_privs_3 : List (MethodName × Nat) := [(⟨"KindRowsModel", "ordered", "(II)I"⟩, 27), (⟨"KindRowsModel", "compared", "(II)I"⟩, 27), (⟨"KindRowsModel", "byRows", "(II)I"⟩, 27), (⟨"KindRowsModel", "tagOf", "(II)I"⟩, 27), (⟨"KindRowsModel", "constantOf", "(II)I"⟩, 27), (⟨"KindRowsModel", "isConstant", "(I)Z"⟩, 27), (⟨"KindRowsModel", "constantAt", "(II)I"⟩, 27), (⟨"KindRowsModel", "keyOf", "(I)I"⟩, 27)]
theorem lw_r3 : ∀ q ∈ lw_privs_3, lw_okq q := List.forall_mem_cons.mpr ⟨lw_p32, List.forall_mem_cons.mpr ⟨lw_p33, List.forall_mem_cons.mpr ⟨lw_p34, List.forall_mem_cons.mpr ⟨lw_p35, List.forall_mem_cons.mpr ⟨lw_p36, List.forall_mem_cons.mpr ⟨lw_p37, List.forall_mem_cons.mpr ⟨lw_p38, List.forall_mem_cons.mpr ⟨lw_p39, fun _ h => absurd h List.not_mem_nil⟩⟩⟩⟩⟩⟩⟩⟩
def lw_privs : List (MethodName × Nat) := lw_privs_1 ++ (lw_privs_2 ++ (lw_privs_3))
def lw_tbl : List Cond := k2_sels lw_privs ++ tables_1
theorem lw_privs_ok : ∀ q ∈ lw_privs, lw_okq q := by
  show ∀ q ∈ lw_privs_1 ++ (lw_privs_2 ++ (lw_privs_3)), lw_okq q
  exact List.forall_mem_append.mpr ⟨lw_r1, List.forall_mem_append.mpr ⟨lw_r2, lw_r3⟩⟩
def RX0 : String := "KindRows$Constant"
def TX0 : u_T := fun k => match k with
  | 0 => ("KindRows$Constant", "enumeration", "I", true)
  | _ => ("KindRows$Constant", "name", "I", true)
def tyX0 : Nat → FieldType := fun k => match k with
  | 0 => .int
  | _ => .int
theorem nmX0 : ∀ a, a < 2 → ∀ b, b < 2 → a ≠ b → (TX0 a).2.1 ≠ (TX0 b).2.1 := by decide +kernel
theorem tyX0_ok : ∀ k, k < 2 → parseFieldDescriptor (TX0 k).2.2.1 = some (tyX0 k) := by decide +kernel
abbrev cX0_init : ByteArray := prog_2_method_1_code
def yX0_init : MethodName := ⟨RX0, "<init>", "(II)V"⟩
def RX1 : String := "KindRows$Enumeration"
def TX1 : u_T := fun k => match k with
  | 0 => ("KindRows$Enumeration", "members", "[I", true)
  | _ => ("KindRows$Enumeration", "size", "I", false)
def tyX1 : Nat → FieldType := fun k => match k with
  | 0 => .array .int
  | _ => .int
theorem nmX1 : ∀ a, a < 2 → ∀ b, b < 2 → a ≠ b → (TX1 a).2.1 ≠ (TX1 b).2.1 := by decide +kernel
theorem tyX1_ok : ∀ k, k < 2 → parseFieldDescriptor (TX1 k).2.2.1 = some (tyX1 k) := by decide +kernel
abbrev cX1_init : ByteArray := prog_3_method_1_code
def yX1_init : MethodName := ⟨RX1, "<init>", "()V"⟩
abbrev cX1_append : ByteArray := prog_3_method_2_code
def yX1_append : MethodName := ⟨RX1, "append", "(I)V"⟩
abbrev cX1_remove : ByteArray := prog_3_method_3_code
def yX1_remove : MethodName := ⟨RX1, "remove", "(I)V"⟩
abbrev cX1_placeOf : ByteArray := prog_3_method_4_code
def yX1_placeOf : MethodName := ⟨RX1, "placeOf", "(I)I"⟩
abbrev cX1_exchange : ByteArray := prog_3_method_5_code
def yX1_exchange : MethodName := ⟨RX1, "exchange", "(II)V"⟩
def RX2 : String := "KindRows$Failures"
def TX2 : u_T := fun k => match k with
  | 0 => ("KindRows$Failures", "latest", "I", false)
  | 1 => ("KindRows$Failures", "latestPart", "I", false)
  | 2 => ("KindRows$Failures", "latestOwn", "I", false)
  | _ => ("KindRows$Failures", "ever", "[I", true)
def tyX2 : Nat → FieldType := fun k => match k with
  | 0 => .int
  | 1 => .int
  | 2 => .int
  | _ => .array .int
theorem nmX2 : ∀ a, a < 4 → ∀ b, b < 4 → a ≠ b → (TX2 a).2.1 ≠ (TX2 b).2.1 := by decide +kernel
theorem tyX2_ok : ∀ k, k < 4 → parseFieldDescriptor (TX2 k).2.2.1 = some (tyX2 k) := by decide +kernel
abbrev cX2_init : ByteArray := prog_4_method_1_code
def yX2_init : MethodName := ⟨RX2, "<init>", "()V"⟩
abbrev cX2_none : ByteArray := prog_4_method_2_code
def yX2_none : MethodName := ⟨RX2, "none", "()V"⟩
abbrev cX2_own : ByteArray := prog_4_method_3_code
def yX2_own : MethodName := ⟨RX2, "own", "(II)I"⟩
abbrev cX2_inNoPart : ByteArray := prog_4_method_4_code
def yX2_inNoPart : MethodName := ⟨RX2, "inNoPart", "(I)I"⟩
abbrev cX2_inPart : ByteArray := prog_4_method_5_code
def yX2_inPart : MethodName := ⟨RX2, "inPart", "(II)I"⟩
abbrev cX2_everOf : ByteArray := prog_4_method_6_code
def yX2_everOf : MethodName := ⟨RX2, "everOf", "(I)I"⟩
def RX3 : String := "KindRows$Family"
def TX3 : u_T := fun k => match k with
  | 0 => ("KindRows$Family", "kinds", "[I", true)
  | _ => ("KindRows$Family", "size", "I", false)
def tyX3 : Nat → FieldType := fun k => match k with
  | 0 => .array .int
  | _ => .int
theorem nmX3 : ∀ a, a < 2 → ∀ b, b < 2 → a ≠ b → (TX3 a).2.1 ≠ (TX3 b).2.1 := by decide +kernel
theorem tyX3_ok : ∀ k, k < 2 → parseFieldDescriptor (TX3 k).2.2.1 = some (tyX3 k) := by decide +kernel
abbrev cX3_init : ByteArray := prog_5_method_1_code
def yX3_init : MethodName := ⟨RX3, "<init>", "([I)V"⟩
abbrev cX3_tagOf : ByteArray := prog_5_method_2_code
def yX3_tagOf : MethodName := ⟨RX3, "tagOf", "(LKindRows$Figure;)I"⟩
def RX4 : String := "KindRows$Figure"
def TX4 : u_T := fun k => match k with
  | 0 => ("KindRows$Figure", "kind", "I", true)
  | 1 => ("KindRows$Figure", "parts", "[J", true)
  | 2 => ("KindRows$Figure", "weight", "J", false)
  | 3 => ("KindRows$Figure", "wideAlone", "Z", false)
  | 4 => ("KindRows$Figure", "number", "I", false)
  | 5 => ("KindRows$Figure", "hash", "I", false)
  | _ => ("KindRows$Figure", "before", "I", false)
def tyX4 : Nat → FieldType := fun k => match k with
  | 0 => .int
  | 1 => .array .long
  | 2 => .long
  | 3 => .boolean
  | 4 => .int
  | 5 => .int
  | _ => .int
theorem nmX4 : ∀ a, a < 7 → ∀ b, b < 7 → a ≠ b → (TX4 a).2.1 ≠ (TX4 b).2.1 := by decide +kernel
theorem tyX4_ok : ∀ k, k < 7 → parseFieldDescriptor (TX4 k).2.2.1 = some (tyX4 k) := by decide +kernel
abbrev cX4_init : ByteArray := prog_6_method_1_code
def yX4_init : MethodName := ⟨RX4, "<init>", "(I[JJ)V"⟩
abbrev cX4_isOf : ByteArray := prog_6_method_2_code
def yX4_isOf : MethodName := ⟨RX4, "isOf", "(I)Z"⟩
abbrev cX4_isLike : ByteArray := prog_6_method_3_code
def yX4_isLike : MethodName := ⟨RX4, "isLike", "(LKindRows$Figure;)Z"⟩
abbrev cX4_hasPlace : ByteArray := prog_6_method_4_code
def yX4_hasPlace : MethodName := ⟨RX4, "hasPlace", "(I)Z"⟩
abbrev cX4_hold : ByteArray := prog_6_method_5_code
def yX4_hold : MethodName := ⟨RX4, "hold", "(II)V"⟩
abbrev cX4_heavyWeight : ByteArray := prog_6_method_6_code
def yX4_heavyWeight : MethodName := ⟨RX4, "heavyWeight", "()J"⟩
def RX5 : String := "KindRows$Figures"
def TX5 : u_T := fun k => match k with
  | 0 => ("KindRows$Figures", "all", "[LKindRows$Figure;", true)
  | 1 => ("KindRows$Figures", "ranking", "[LKindRows$Figure;", true)
  | _ => ("KindRows$Figures", "count", "I", false)
def tyX5 : Nat → FieldType := fun k => match k with
  | 0 => .array (.object "KindRows$Figure")
  | 1 => .array (.object "KindRows$Figure")
  | _ => .int
theorem nmX5 : ∀ a, a < 3 → ∀ b, b < 3 → a ≠ b → (TX5 a).2.1 ≠ (TX5 b).2.1 := by decide +kernel
theorem tyX5_ok : ∀ k, k < 3 → parseFieldDescriptor (TX5 k).2.2.1 = some (tyX5 k) := by decide +kernel
abbrev cX5_init : ByteArray := prog_7_method_1_code
def yX5_init : MethodName := ⟨RX5, "<init>", "()V"⟩
abbrev cX5_isFull : ByteArray := prog_7_method_2_code
def yX5_isFull : MethodName := ⟨RX5, "isFull", "()Z"⟩
abbrev cX5_find : ByteArray := prog_7_method_3_code
def yX5_find : MethodName := ⟨RX5, "find", "(J)LKindRows$Figure;"⟩
abbrev cX5_hasOrNone : ByteArray := prog_7_method_4_code
def yX5_hasOrNone : MethodName := ⟨RX5, "hasOrNone", "(I)Z"⟩
abbrev cX5_add : ByteArray := prog_7_method_5_code
def yX5_add : MethodName := ⟨RX5, "add", "(LKindRows$Figure;)I"⟩
abbrev cX5_weighPairs : ByteArray := prog_7_method_6_code
def yX5_weighPairs : MethodName := ⟨RX5, "weighPairs", "()V"⟩
abbrev cX5_numberRanked : ByteArray := prog_7_method_7_code
def yX5_numberRanked : MethodName := ⟨RX5, "numberRanked", "(I)I"⟩
abbrev cX5_firstLike : ByteArray := prog_7_method_8_code
def yX5_firstLike : MethodName := ⟨RX5, "firstLike", "(LKindRows$Figure;)I"⟩
abbrev cX5_hashOf : ByteArray := prog_7_method_9_code
def yX5_hashOf : MethodName := ⟨RX5, "hashOf", "(LKindRows$Figure;)I"⟩
abbrev cX5_hashOfNumbered : ByteArray := prog_7_method_10_code
def yX5_hashOfNumbered : MethodName := ⟨RX5, "hashOfNumbered", "(J)I"⟩
abbrev cX5_rank : ByteArray := prog_7_method_11_code
def yX5_rank : MethodName := ⟨RX5, "rank", "(LKindRows$Figure;)V"⟩
abbrev cX5_compare : ByteArray := prog_7_method_12_code
def yX5_compare : MethodName := ⟨RX5, "compare", "(LKindRows$Figure;LKindRows$Figure;)I"⟩
abbrev cX5_compareAtK : ByteArray := prog_7_method_13_code
def yX5_compareAtK : MethodName := ⟨RX5, "compareAtK", "(LKindRows$Figure;LKindRows$Figure;)I"⟩
abbrev cX5_compareFrom : ByteArray := prog_7_method_14_code
def yX5_compareFrom : MethodName := ⟨RX5, "compareFrom", "(ILKindRows$Figure;LKindRows$Figure;)I"⟩
abbrev cX5_sortKey : ByteArray := prog_7_method_15_code
def yX5_sortKey : MethodName := ⟨RX5, "sortKey", "(IJ)J"⟩
def RX6 : String := "KindRows$Keys"
def TX6 : u_T := fun k => match k with
  | 0 => ("KindRows$Keys", "known", "[I", true)
  | 1 => ("KindRows$Keys", "values", "[I", true)
  | _ => ("KindRows$Keys", "size", "I", false)
def tyX6 : Nat → FieldType := fun k => match k with
  | 0 => .array .int
  | 1 => .array .int
  | _ => .int
theorem nmX6 : ∀ a, a < 3 → ∀ b, b < 3 → a ≠ b → (TX6 a).2.1 ≠ (TX6 b).2.1 := by decide +kernel
theorem tyX6_ok : ∀ k, k < 3 → parseFieldDescriptor (TX6 k).2.2.1 = some (tyX6 k) := by decide +kernel
abbrev cX6_init : ByteArray := prog_8_method_1_code
def yX6_init : MethodName := ⟨RX6, "<init>", "()V"⟩
abbrev cX6_store : ByteArray := prog_8_method_2_code
def yX6_store : MethodName := ⟨RX6, "store", "(II)I"⟩
abbrev cX6_valueOf : ByteArray := prog_8_method_3_code
def yX6_valueOf : MethodName := ⟨RX6, "valueOf", "(I)I"⟩
abbrev cX6_placeOf : ByteArray := prog_8_method_4_code
def yX6_placeOf : MethodName := ⟨RX6, "placeOf", "(I)I"⟩
def RX7 : String := "KindRows"
def TX7 : u_T := fun k => match k with
  | 0 => ("KindRows", "failures", "LKindRows$Failures;", true)
  | 1 => ("KindRows", "figures", "LKindRows$Figures;", true)
  | 2 => ("KindRows", "numbers", "[I", true)
  | 3 => ("KindRows", "laid", "I", false)
  | 4 => ("KindRows", "families", "[LKindRows$Family;", true)
  | 5 => ("KindRows", "familyCount", "I", false)
  | 6 => ("KindRows", "constants", "[LKindRows$Constant;", true)
  | 7 => ("KindRows", "constantCount", "I", false)
  | 8 => ("KindRows", "enumerations", "[LKindRows$Enumeration;", true)
  | 9 => ("KindRows", "keys", "LKindRows$Keys;", true)
  | _ => ("KindRows", "link", "J", false)
def tyX7 : Nat → FieldType := fun k => match k with
  | 0 => .object "KindRows$Failures"
  | 1 => .object "KindRows$Figures"
  | 2 => .array .int
  | 3 => .int
  | 4 => .array (.object "KindRows$Family")
  | 5 => .int
  | 6 => .array (.object "KindRows$Constant")
  | 7 => .int
  | 8 => .array (.object "KindRows$Enumeration")
  | 9 => .object "KindRows$Keys"
  | _ => .long
theorem nmX7 : ∀ a, a < 11 → ∀ b, b < 11 → a ≠ b → (TX7 a).2.1 ≠ (TX7 b).2.1 := by decide +kernel
theorem tyX7_ok : ∀ k, k < 11 → parseFieldDescriptor (TX7 k).2.2.1 = some (tyX7 k) := by decide +kernel
abbrev cX7_init : ByteArray := prog_1_method_1_code
def yX7_init : MethodName := ⟨RX7, "<init>", "()V"⟩
abbrev cX7_cause : ByteArray := prog_1_method_2_code
def yX7_cause : MethodName := ⟨RX7, "cause", "(I)I"⟩
abbrev cX7_lay : ByteArray := prog_1_method_3_code
def yX7_lay : MethodName := ⟨RX7, "lay", "(I)I"⟩
abbrev cX7_wipe : ByteArray := prog_1_method_4_code
def yX7_wipe : MethodName := ⟨RX7, "wipe", "()I"⟩
abbrev cX7_point : ByteArray := prog_1_method_5_code
def yX7_point : MethodName := ⟨RX7, "point", "(JJ)I"⟩
abbrev cX7_span : ByteArray := prog_1_method_6_code
def yX7_span : MethodName := ⟨RX7, "span", "(II)I"⟩
abbrev cX7_wide : ByteArray := prog_1_method_7_code
def yX7_wide : MethodName := ⟨RX7, "wide", "(III)I"⟩
abbrev cX7_share : ByteArray := prog_1_method_8_code
def yX7_share : MethodName := ⟨RX7, "share", "(JJ)I"⟩
abbrev cX7_pair : ByteArray := prog_1_method_9_code
def yX7_pair : MethodName := ⟨RX7, "pair", "(II)I"⟩
abbrev cX7_row : ByteArray := prog_1_method_10_code
def yX7_row : MethodName := ⟨RX7, "row", "(II)I"⟩
abbrev cX7_shelf : ByteArray := prog_1_method_11_code
def yX7_shelf : MethodName := ⟨RX7, "shelf", "(ZI)I"⟩
abbrev cX7_set : ByteArray := prog_1_method_12_code
def yX7_set : MethodName := ⟨RX7, "set", "(III)I"⟩
abbrev cX7_at : ByteArray := prog_1_method_13_code
def yX7_at : MethodName := ⟨RX7, "at", "(II)I"⟩
abbrev cX7_kind : ByteArray := prog_1_method_14_code
def yX7_kind : MethodName := ⟨RX7, "kind", "(I)I"⟩
abbrev cX7_parts : ByteArray := prog_1_method_15_code
def yX7_parts : MethodName := ⟨RX7, "parts", "(I)I"⟩
abbrev cX7_part : ByteArray := prog_1_method_16_code
def yX7_part : MethodName := ⟨RX7, "part", "(II)J"⟩
abbrev cX7_weight : ByteArray := prog_1_method_17_code
def yX7_weight : MethodName := ⟨RX7, "weight", "(IZ)J"⟩
abbrev cX7_equal : ByteArray := prog_1_method_18_code
def yX7_equal : MethodName := ⟨RX7, "equal", "(II)I"⟩
abbrev cX7_hash : ByteArray := prog_1_method_19_code
def yX7_hash : MethodName := ⟨RX7, "hash", "(I)I"⟩
abbrev cX7_order : ByteArray := prog_1_method_20_code
def yX7_order : MethodName := ⟨RX7, "order", "(II)I"⟩
abbrev cX7_ranked : ByteArray := prog_1_method_21_code
def yX7_ranked : MethodName := ⟨RX7, "ranked", "(I)I"⟩
abbrev cX7_first : ByteArray := prog_1_method_22_code
def yX7_first : MethodName := ⟨RX7, "first", "(I)I"⟩
abbrev cX7_family : ByteArray := prog_1_method_23_code
def yX7_family : MethodName := ⟨RX7, "family", "(IIII)I"⟩
abbrev cX7_tag : ByteArray := prog_1_method_24_code
def yX7_tag : MethodName := ⟨RX7, "tag", "(II)I"⟩
abbrev cX7_tagged : ByteArray := prog_1_method_25_code
def yX7_tagged : MethodName := ⟨RX7, "tagged", "(II)I"⟩
abbrev cX7_constant : ByteArray := prog_1_method_26_code
def yX7_constant : MethodName := ⟨RX7, "constant", "(II)I"⟩
abbrev cX7_named : ByteArray := prog_1_method_27_code
def yX7_named : MethodName := ⟨RX7, "named", "(II)I"⟩
abbrev cX7_drop : ByteArray := prog_1_method_28_code
def yX7_drop : MethodName := ⟨RX7, "drop", "(I)I"⟩
abbrev cX7_reorder : ByteArray := prog_1_method_29_code
def yX7_reorder : MethodName := ⟨RX7, "reorder", "(I)I"⟩
abbrev cX7_seed : ByteArray := prog_1_method_30_code
def yX7_seed : MethodName := ⟨RX7, "seed", "(I)I"⟩
abbrev cX7_told : ByteArray := prog_1_method_31_code
def yX7_told : MethodName := ⟨RX7, "told", "(II)I"⟩
abbrev cX7_placed : ByteArray := prog_1_method_32_code
def yX7_placed : MethodName := ⟨RX7, "placed", "(II)I"⟩
abbrev cX7_put : ByteArray := prog_1_method_33_code
def yX7_put : MethodName := ⟨RX7, "put", "(II)I"⟩
abbrev cX7_get : ByteArray := prog_1_method_34_code
def yX7_get : MethodName := ⟨RX7, "get", "(I)I"⟩
abbrev cX7_count : ByteArray := prog_1_method_35_code
def yX7_count : MethodName := ⟨RX7, "count", "(I)I"⟩
abbrev cX7_oneNan : ByteArray := prog_1_method_36_code
def yX7_oneNan : MethodName := ⟨RX7, "oneNan", "(J)J"⟩
abbrev cX7_lengthOf : ByteArray := prog_1_method_37_code
def yX7_lengthOf : MethodName := ⟨RX7, "lengthOf", "(II)J"⟩
abbrev cX7_numberAt : ByteArray := prog_1_method_38_code
def yX7_numberAt : MethodName := ⟨RX7, "numberAt", "(I)I"⟩
abbrev cX7_rowParts : ByteArray := prog_1_method_39_code
def yX7_rowParts : MethodName := ⟨RX7, "rowParts", "(III)[J"⟩
abbrev cX7_areKindsOnce : ByteArray := prog_1_method_40_code
def yX7_areKindsOnce : MethodName := ⟨RX7, "areKindsOnce", "([I)Z"⟩
abbrev cX7_findFamily : ByteArray := prog_1_method_41_code
def yX7_findFamily : MethodName := ⟨RX7, "findFamily", "(I)LKindRows$Family;"⟩
abbrev cX7_findConstant : ByteArray := prog_1_method_42_code
def yX7_findConstant : MethodName := ⟨RX7, "findConstant", "(I)LKindRows$Constant;"⟩
abbrev cX7_findEnumeration : ByteArray := prog_1_method_43_code
def yX7_findEnumeration : MethodName := ⟨RX7, "findEnumeration", "(I)LKindRows$Enumeration;"⟩
abbrev cX7_homeOf : ByteArray := prog_1_method_44_code
def yX7_homeOf : MethodName := ⟨RX7, "homeOf", "(I)LKindRows$Enumeration;"⟩
abbrev cX7_memberNamed : ByteArray := prog_1_method_45_code
def yX7_memberNamed : MethodName := ⟨RX7, "memberNamed", "(LKindRows$Enumeration;I)I"⟩
abbrev cX7_membersOfAll : ByteArray := prog_1_method_46_code
def yX7_membersOfAll : MethodName := ⟨RX7, "membersOfAll", "()I"⟩
abbrev cX7_drawBelow : ByteArray := prog_1_method_47_code
def yX7_drawBelow : MethodName := ⟨RX7, "drawBelow", "(I)I"⟩
abbrev cX7_keyOf : ByteArray := prog_1_method_48_code
def yX7_keyOf : MethodName := ⟨RX7, "keyOf", "(LKindRows$Constant;)I"⟩
def RX8 : String := "KindRowsModel"
def TX8 : u_T := fun k => match k with
  | 0 => ("KindRowsModel", "failure", "I", false)
  | 1 => ("KindRowsModel", "failPart", "I", false)
  | 2 => ("KindRowsModel", "failOwn", "I", false)
  | 3 => ("KindRowsModel", "ever", "[I", true)
  | 4 => ("KindRowsModel", "numbers", "I", false)
  | 5 => ("KindRowsModel", "number", "[I", true)
  | 6 => ("KindRowsModel", "figures", "I", false)
  | 7 => ("KindRowsModel", "kind", "[I", true)
  | 8 => ("KindRowsModel", "many", "[I", true)
  | 9 => ("KindRowsModel", "cell", "[J", true)
  | 10 => ("KindRowsModel", "isWide", "[Z", true)
  | 11 => ("KindRowsModel", "like", "[I", true)
  | 12 => ("KindRowsModel", "hash", "[I", true)
  | 13 => ("KindRowsModel", "weights", "[J", true)
  | 14 => ("KindRowsModel", "families", "I", false)
  | 15 => ("KindRowsModel", "familyMany", "[I", true)
  | 16 => ("KindRowsModel", "familyKind", "[I", true)
  | 17 => ("KindRowsModel", "constants", "I", false)
  | 18 => ("KindRowsModel", "enumeration", "[I", true)
  | 19 => ("KindRowsModel", "name", "[I", true)
  | 20 => ("KindRowsModel", "placeOf", "[I", true)
  | 21 => ("KindRowsModel", "has", "[I", true)
  | 22 => ("KindRowsModel", "link", "J", false)
  | 23 => ("KindRowsModel", "keys", "I", false)
  | 24 => ("KindRowsModel", "keyEnumeration", "[I", true)
  | 25 => ("KindRowsModel", "keyName", "[I", true)
  | _ => ("KindRowsModel", "keyValue", "[I", true)
def tyX8 : Nat → FieldType := fun k => match k with
  | 0 => .int
  | 1 => .int
  | 2 => .int
  | 3 => .array .int
  | 4 => .int
  | 5 => .array .int
  | 6 => .int
  | 7 => .array .int
  | 8 => .array .int
  | 9 => .array .long
  | 10 => .array .boolean
  | 11 => .array .int
  | 12 => .array .int
  | 13 => .array .long
  | 14 => .int
  | 15 => .array .int
  | 16 => .array .int
  | 17 => .int
  | 18 => .array .int
  | 19 => .array .int
  | 20 => .array .int
  | 21 => .array .int
  | 22 => .long
  | 23 => .int
  | 24 => .array .int
  | 25 => .array .int
  | _ => .array .int
theorem nmX8 : ∀ a, a < 27 → ∀ b, b < 27 → a ≠ b → (TX8 a).2.1 ≠ (TX8 b).2.1 := by decide +kernel
theorem tyX8_ok : ∀ k, k < 27 → parseFieldDescriptor (TX8 k).2.2.1 = some (tyX8 k) := by decide +kernel
abbrev cX8_init : ByteArray := prog_10_method_1_code
def yX8_init : MethodName := ⟨RX8, "<init>", "()V"⟩
abbrev cX8_begin : ByteArray := prog_10_method_2_code
def yX8_begin : MethodName := ⟨RX8, "begin", "()V"⟩
abbrev cX8_fails : ByteArray := prog_10_method_3_code
def yX8_fails : MethodName := ⟨RX8, "fails", "(III)I"⟩
abbrev cX8_cause : ByteArray := prog_10_method_4_code
def yX8_cause : MethodName := ⟨RX8, "cause", "(I)I"⟩
abbrev cX8_lay : ByteArray := prog_10_method_5_code
def yX8_lay : MethodName := ⟨RX8, "lay", "(I)I"⟩
abbrev cX8_wipe : ByteArray := prog_10_method_6_code
def yX8_wipe : MethodName := ⟨RX8, "wipe", "()I"⟩
abbrev cX8_isFigure : ByteArray := prog_10_method_7_code
def yX8_isFigure : MethodName := ⟨RX8, "isFigure", "(I)Z"⟩
abbrev cX8_at : ByteArray := prog_10_method_8_code
def yX8_at : MethodName := ⟨RX8, "at", "(IIJ)J"⟩
abbrev cX8_cellOf : ByteArray := prog_10_method_9_code
def yX8_cellOf : MethodName := ⟨RX8, "cellOf", "(II)J"⟩
abbrev cX8_start : ByteArray := prog_10_method_10_code
def yX8_start : MethodName := ⟨RX8, "start", "(I)V"⟩
abbrev cX8_part : ByteArray := prog_10_method_11_code
def yX8_part : MethodName := ⟨RX8, "part", "(J)V"⟩
abbrev cX8_isFigurePart : ByteArray := prog_10_method_12_code
def yX8_isFigurePart : MethodName := ⟨RX8, "isFigurePart", "(I)Z"⟩
abbrev cX8_leastLike : ByteArray := prog_10_method_13_code
def yX8_leastLike : MethodName := ⟨RX8, "leastLike", "(I)I"⟩
abbrev cX8_likeOf : ByteArray := prog_10_method_14_code
def yX8_likeOf : MethodName := ⟨RX8, "likeOf", "(J)I"⟩
abbrev cX8_folded : ByteArray := prog_10_method_15_code
def yX8_folded : MethodName := ⟨RX8, "folded", "(J)I"⟩
abbrev cX8_hashOf : ByteArray := prog_10_method_16_code
def yX8_hashOf : MethodName := ⟨RX8, "hashOf", "(I)I"⟩
abbrev cX8_made : ByteArray := prog_10_method_17_code
def yX8_made : MethodName := ⟨RX8, "made", "()I"⟩
abbrev cX8_clean : ByteArray := prog_10_method_18_code
def yX8_clean : MethodName := ⟨RX8, "clean", "(J)J"⟩
abbrev cX8_point : ByteArray := prog_10_method_19_code
def yX8_point : MethodName := ⟨RX8, "point", "(JJ)I"⟩
abbrev cX8_span : ByteArray := prog_10_method_20_code
def yX8_span : MethodName := ⟨RX8, "span", "(II)I"⟩
abbrev cX8_wide : ByteArray := prog_10_method_21_code
def yX8_wide : MethodName := ⟨RX8, "wide", "(III)I"⟩
abbrev cX8_share : ByteArray := prog_10_method_22_code
def yX8_share : MethodName := ⟨RX8, "share", "(JJ)I"⟩
abbrev cX8_pair : ByteArray := prog_10_method_23_code
def yX8_pair : MethodName := ⟨RX8, "pair", "(II)I"⟩
abbrev cX8_laid : ByteArray := prog_10_method_24_code
def yX8_laid : MethodName := ⟨RX8, "laid", "(I)I"⟩
abbrev cX8_row : ByteArray := prog_10_method_25_code
def yX8_row : MethodName := ⟨RX8, "row", "(II)I"⟩
abbrev cX8_shelf : ByteArray := prog_10_method_26_code
def yX8_shelf : MethodName := ⟨RX8, "shelf", "(ZI)I"⟩
abbrev cX8_hasPlace : ByteArray := prog_10_method_27_code
def yX8_hasPlace : MethodName := ⟨RX8, "hasPlace", "(II)Z"⟩
abbrev cX8_set : ByteArray := prog_10_method_28_code
def yX8_set : MethodName := ⟨RX8, "set", "(III)I"⟩
abbrev cX8_at_ : ByteArray := prog_10_method_29_code
def yX8_at_ : MethodName := ⟨RX8, "at", "(II)I"⟩
abbrev cX8_kind : ByteArray := prog_10_method_30_code
def yX8_kind : MethodName := ⟨RX8, "kind", "(I)I"⟩
abbrev cX8_parts : ByteArray := prog_10_method_31_code
def yX8_parts : MethodName := ⟨RX8, "parts", "(I)I"⟩
abbrev cX8_part_ : ByteArray := prog_10_method_32_code
def yX8_part_ : MethodName := ⟨RX8, "part", "(II)J"⟩
abbrev cX8_heavyOf : ByteArray := prog_10_method_33_code
def yX8_heavyOf : MethodName := ⟨RX8, "heavyOf", "(I)J"⟩
abbrev cX8_weightOf : ByteArray := prog_10_method_34_code
def yX8_weightOf : MethodName := ⟨RX8, "weightOf", "(I)J"⟩
abbrev cX8_weight : ByteArray := prog_10_method_35_code
def yX8_weight : MethodName := ⟨RX8, "weight", "(IZ)J"⟩
abbrev cX8_equal : ByteArray := prog_10_method_36_code
def yX8_equal : MethodName := ⟨RX8, "equal", "(II)I"⟩
abbrev cX8_hash : ByteArray := prog_10_method_37_code
def yX8_hash : MethodName := ⟨RX8, "hash", "(I)I"⟩
abbrev cX8_first : ByteArray := prog_10_method_38_code
def yX8_first : MethodName := ⟨RX8, "first", "(I)I"⟩
abbrev cX8_by : ByteArray := prog_10_method_39_code
def yX8_by : MethodName := ⟨RX8, "by", "(JJ)I"⟩
abbrev cX8_line : ByteArray := prog_10_method_40_code
def yX8_line : MethodName := ⟨RX8, "line", "(J)J"⟩
abbrev cX8_byRows : ByteArray := prog_10_method_41_code
def yX8_byRows : MethodName := ⟨RX8, "byRows", "(II)I"⟩
abbrev cX8_compared : ByteArray := prog_10_method_42_code
def yX8_compared : MethodName := ⟨RX8, "compared", "(II)I"⟩
abbrev cX8_ordered : ByteArray := prog_10_method_43_code
def yX8_ordered : MethodName := ⟨RX8, "ordered", "(II)I"⟩
abbrev cX8_order : ByteArray := prog_10_method_44_code
def yX8_order : MethodName := ⟨RX8, "order", "(II)I"⟩
abbrev cX8_ranked : ByteArray := prog_10_method_45_code
def yX8_ranked : MethodName := ⟨RX8, "ranked", "(I)I"⟩
abbrev cX8_told4 : ByteArray := prog_10_method_46_code
def yX8_told4 : MethodName := ⟨RX8, "told4", "(IIIII)I"⟩
abbrev cX8_family : ByteArray := prog_10_method_47_code
def yX8_family : MethodName := ⟨RX8, "family", "(IIII)I"⟩
abbrev cX8_tagOf : ByteArray := prog_10_method_48_code
def yX8_tagOf : MethodName := ⟨RX8, "tagOf", "(II)I"⟩
abbrev cX8_tag : ByteArray := prog_10_method_49_code
def yX8_tag : MethodName := ⟨RX8, "tag", "(II)I"⟩
abbrev cX8_tagged : ByteArray := prog_10_method_50_code
def yX8_tagged : MethodName := ⟨RX8, "tagged", "(II)I"⟩
abbrev cX8_isEnumeration : ByteArray := prog_10_method_51_code
def yX8_isEnumeration : MethodName := ⟨RX8, "isEnumeration", "(I)Z"⟩
abbrev cX8_isConstant : ByteArray := prog_10_method_52_code
def yX8_isConstant : MethodName := ⟨RX8, "isConstant", "(I)Z"⟩
abbrev cX8_constantAt : ByteArray := prog_10_method_53_code
def yX8_constantAt : MethodName := ⟨RX8, "constantAt", "(II)I"⟩
abbrev cX8_constantOf : ByteArray := prog_10_method_54_code
def yX8_constantOf : MethodName := ⟨RX8, "constantOf", "(II)I"⟩
abbrev cX8_constant : ByteArray := prog_10_method_55_code
def yX8_constant : MethodName := ⟨RX8, "constant", "(II)I"⟩
abbrev cX8_named : ByteArray := prog_10_method_56_code
def yX8_named : MethodName := ⟨RX8, "named", "(II)I"⟩
abbrev cX8_drop : ByteArray := prog_10_method_57_code
def yX8_drop : MethodName := ⟨RX8, "drop", "(I)I"⟩
abbrev cX8_reorder : ByteArray := prog_10_method_58_code
def yX8_reorder : MethodName := ⟨RX8, "reorder", "(I)I"⟩
abbrev cX8_seed : ByteArray := prog_10_method_59_code
def yX8_seed : MethodName := ⟨RX8, "seed", "(I)I"⟩
abbrev cX8_told : ByteArray := prog_10_method_60_code
def yX8_told : MethodName := ⟨RX8, "told", "(II)I"⟩
abbrev cX8_placed : ByteArray := prog_10_method_61_code
def yX8_placed : MethodName := ⟨RX8, "placed", "(II)I"⟩
abbrev cX8_keyOf : ByteArray := prog_10_method_62_code
def yX8_keyOf : MethodName := ⟨RX8, "keyOf", "(I)I"⟩
abbrev cX8_put : ByteArray := prog_10_method_63_code
def yX8_put : MethodName := ⟨RX8, "put", "(II)I"⟩
abbrev cX8_get : ByteArray := prog_10_method_64_code
def yX8_get : MethodName := ⟨RX8, "get", "(I)I"⟩
abbrev cX8_count : ByteArray := prog_10_method_65_code
def yX8_count : MethodName := ⟨RX8, "count", "(I)I"⟩
def RJ6 : String := "java/lang/Integer"
def TJ6 : u_T := fun k => match k with
  | _ => ("", "", "", false)
def tyJ6 : Nat → FieldType := fun k => match k with
  | _ => .int
theorem nmJ6 : ∀ a, a < 0 → ∀ b, b < 0 → a ≠ b → (TJ6 a).2.1 ≠ (TJ6 b).2.1 := by decide +kernel
theorem tyJ6_ok : ∀ k, k < 0 → parseFieldDescriptor (TJ6 k).2.2.1 = some (tyJ6 k) := by decide +kernel
abbrev cJ6_compare_7cf53 : ByteArray := prog_11_method_40_code
def yJ6_compare_7cf53 : MethodName := ⟨RJ6, "compare", "(II)I"⟩
def RJ13 : String := "java/lang/Long"
def TJ13 : u_T := fun k => match k with
  | _ => ("", "", "", false)
def tyJ13 : Nat → FieldType := fun k => match k with
  | _ => .int
theorem nmJ13 : ∀ a, a < 0 → ∀ b, b < 0 → a ≠ b → (TJ13 a).2.1 ≠ (TJ13 b).2.1 := by decide +kernel
theorem tyJ13_ok : ∀ k, k < 0 → parseFieldDescriptor (TJ13 k).2.2.1 = some (tyJ13 k) := by decide +kernel
abbrev cJ13_compare_74951 : ByteArray := prog_12_method_42_code
def yJ13_compare_74951 : MethodName := ⟨RJ13, "compare", "(JJ)I"⟩
def RJ9 : String := "java/lang/Math"
def TJ9 : u_T := fun k => match k with
  | _ => ("", "", "", false)
def tyJ9 : Nat → FieldType := fun k => match k with
  | _ => .int
theorem nmJ9 : ∀ a, a < 0 → ∀ b, b < 0 → a ≠ b → (TJ9 a).2.1 ≠ (TJ9 b).2.1 := by decide +kernel
theorem tyJ9_ok : ∀ k, k < 0 → parseFieldDescriptor (TJ9 k).2.2.1 = some (tyJ9 k) := by decide +kernel
abbrev cJ9_abs_067f4 : ByteArray := prog_13_method_61_code
def yJ9_abs_067f4 : MethodName := ⟨RJ9, "abs", "(J)J"⟩
abbrev cJ9_min_7cf53 : ByteArray := prog_13_method_69_code
def yJ9_min_7cf53 : MethodName := ⟨RJ9, "min", "(II)I"⟩
def RL : String := "KindRowsLaw"
abbrev cL_law : ByteArray := code
def yL_law : MethodName := ⟨RL, "law", "([I)Z"⟩
abbrev vwCl : List vw_C := [(RX0, TX0, 2), (RX1, TX1, 2), (RX2, TX2, 4), (RX3, TX3, 2), (RX4, TX4, 7), (RX5, TX5, 3), (RX6, TX6, 3), (RX7, TX7, 11), (RX8, TX8, 27)]
