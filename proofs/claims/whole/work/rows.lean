section
-- ===== PART A: goes FIRST, ahead of the names: the tables' words, and 'selects' of the private methods out of them =====
/-- a private method of a class that the tables say can be made, by its rows of tables_1 -/
def lw_okq (q : MethodName × Nat) : Prop := (q.1.cls ≠ "java/lang/invoke/MethodHandle" ∧ q.1.cls ≠ "java/lang/invoke/VarHandle") ∧ Cond.instantiable q.1.cls q.2 ∈ tables_1 ∧ Cond.privateMethod q.1 ∈ tables_1 ∧ Cond.instanceMethod q.1 ∈ tables_1
theorem lw_p0 : lw_okq (⟨"SheetTrees", "startRun", "()V"⟩, 15) := ⟨⟨by decide +kernel, by decide +kernel⟩, List.mem_of_getElem? (i := 18) (by decide +kernel), List.mem_of_getElem? (i := 266) (by decide +kernel), List.mem_of_getElem? (i := 267) (by decide +kernel)⟩
theorem lw_p1 : lw_okq (⟨"SheetTrees", "partsStillWanted", "()I"⟩, 15) := ⟨⟨by decide +kernel, by decide +kernel⟩, List.mem_of_getElem? (i := 18) (by decide +kernel), List.mem_of_getElem? (i := 270) (by decide +kernel), List.mem_of_getElem? (i := 271) (by decide +kernel)⟩
theorem lw_p2 : lw_okq (⟨"SheetTrees$Tables", "fill", "([LSheetTrees$Part;II)V"⟩, 5) := ⟨⟨by decide +kernel, by decide +kernel⟩, List.mem_of_getElem? (i := 41) (by decide +kernel), List.mem_of_getElem? (i := 274) (by decide +kernel), List.mem_of_getElem? (i := 275) (by decide +kernel)⟩
theorem lw_p3 : lw_okq (⟨"SheetTrees$Tables", "fillWithoutCuts", "([LSheetTrees$Part;)V"⟩, 5) := ⟨⟨by decide +kernel, by decide +kernel⟩, List.mem_of_getElem? (i := 41) (by decide +kernel), List.mem_of_getElem? (i := 278) (by decide +kernel), List.mem_of_getElem? (i := 279) (by decide +kernel)⟩
theorem lw_p4 : lw_okq (⟨"SheetTrees$Tables", "putPart", "(III)V"⟩, 5) := ⟨⟨by decide +kernel, by decide +kernel⟩, List.mem_of_getElem? (i := 41) (by decide +kernel), List.mem_of_getElem? (i := 285) (by decide +kernel), List.mem_of_getElem? (i := 286) (by decide +kernel)⟩
theorem lw_p5 : lw_okq (⟨"SheetTrees$Tables", "put", "(III)V"⟩, 5) := ⟨⟨by decide +kernel, by decide +kernel⟩, List.mem_of_getElem? (i := 41) (by decide +kernel), List.mem_of_getElem? (i := 292) (by decide +kernel), List.mem_of_getElem? (i := 293) (by decide +kernel)⟩
theorem lw_p6 : lw_okq (⟨"SheetTrees$Tables", "fillStage", "(I)V"⟩, 5) := ⟨⟨by decide +kernel, by decide +kernel⟩, List.mem_of_getElem? (i := 41) (by decide +kernel), List.mem_of_getElem? (i := 296) (by decide +kernel), List.mem_of_getElem? (i := 297) (by decide +kernel)⟩
theorem lw_p7 : lw_okq (⟨"SheetTrees$Tables", "choose", "(IIII)V"⟩, 5) := ⟨⟨by decide +kernel, by decide +kernel⟩, List.mem_of_getElem? (i := 41) (by decide +kernel), List.mem_of_getElem? (i := 300) (by decide +kernel), List.mem_of_getElem? (i := 301) (by decide +kernel)⟩
theorem lw_p8 : lw_okq (⟨"SheetTrees$Tables", "scoreAt", "(I)I"⟩, 5) := ⟨⟨by decide +kernel, by decide +kernel⟩, List.mem_of_getElem? (i := 41) (by decide +kernel), List.mem_of_getElem? (i := 304) (by decide +kernel), List.mem_of_getElem? (i := 305) (by decide +kernel)⟩
theorem lw_p9 : lw_okq (⟨"SheetTrees$Tables", "choiceAt", "(I)I"⟩, 5) := ⟨⟨by decide +kernel, by decide +kernel⟩, List.mem_of_getElem? (i := 41) (by decide +kernel), List.mem_of_getElem? (i := 308) (by decide +kernel), List.mem_of_getElem? (i := 309) (by decide +kernel)⟩
theorem lw_p10 : lw_okq (⟨"SheetTrees", "bestSheet", "()I"⟩, 15) := ⟨⟨by decide +kernel, by decide +kernel⟩, List.mem_of_getElem? (i := 18) (by decide +kernel), List.mem_of_getElem? (i := 313) (by decide +kernel), List.mem_of_getElem? (i := 314) (by decide +kernel)⟩
theorem lw_p11 : lw_okq (⟨"SheetTrees$Layout", "lay", "(LSheetTrees$Sheet;I)V"⟩, 7) := ⟨⟨by decide +kernel, by decide +kernel⟩, List.mem_of_getElem? (i := 66) (by decide +kernel), List.mem_of_getElem? (i := 317) (by decide +kernel), List.mem_of_getElem? (i := 318) (by decide +kernel)⟩
theorem lw_p12 : lw_okq (⟨"SheetTrees$Tables", "scoreOf", "(IIII)I"⟩, 5) := ⟨⟨by decide +kernel, by decide +kernel⟩, List.mem_of_getElem? (i := 41) (by decide +kernel), List.mem_of_getElem? (i := 322) (by decide +kernel), List.mem_of_getElem? (i := 323) (by decide +kernel)⟩
theorem lw_p13 : lw_okq (⟨"SheetTrees$Layout", "layTree", "(IIIIII)V"⟩, 7) := ⟨⟨by decide +kernel, by decide +kernel⟩, List.mem_of_getElem? (i := 66) (by decide +kernel), List.mem_of_getElem? (i := 326) (by decide +kernel), List.mem_of_getElem? (i := 327) (by decide +kernel)⟩
theorem lw_p14 : lw_okq (⟨"SheetTrees$Tables", "choiceOf", "(IIII)I"⟩, 5) := ⟨⟨by decide +kernel, by decide +kernel⟩, List.mem_of_getElem? (i := 41) (by decide +kernel), List.mem_of_getElem? (i := 330) (by decide +kernel), List.mem_of_getElem? (i := 331) (by decide +kernel)⟩
theorem lw_p15 : lw_okq (⟨"SheetTrees$Layout", "addPiece", "(II)V"⟩, 7) := ⟨⟨by decide +kernel, by decide +kernel⟩, List.mem_of_getElem? (i := 66) (by decide +kernel), List.mem_of_getElem? (i := 337) (by decide +kernel), List.mem_of_getElem? (i := 338) (by decide +kernel)⟩
def lw_privs_1 : List (MethodName × Nat) := [(⟨"SheetTrees", "startRun", "()V"⟩, 15), (⟨"SheetTrees", "partsStillWanted", "()I"⟩, 15), (⟨"SheetTrees$Tables", "fill", "([LSheetTrees$Part;II)V"⟩, 5), (⟨"SheetTrees$Tables", "fillWithoutCuts", "([LSheetTrees$Part;)V"⟩, 5), (⟨"SheetTrees$Tables", "putPart", "(III)V"⟩, 5), (⟨"SheetTrees$Tables", "put", "(III)V"⟩, 5), (⟨"SheetTrees$Tables", "fillStage", "(I)V"⟩, 5), (⟨"SheetTrees$Tables", "choose", "(IIII)V"⟩, 5), (⟨"SheetTrees$Tables", "scoreAt", "(I)I"⟩, 5), (⟨"SheetTrees$Tables", "choiceAt", "(I)I"⟩, 5), (⟨"SheetTrees", "bestSheet", "()I"⟩, 15), (⟨"SheetTrees$Layout", "lay", "(LSheetTrees$Sheet;I)V"⟩, 7), (⟨"SheetTrees$Tables", "scoreOf", "(IIII)I"⟩, 5), (⟨"SheetTrees$Layout", "layTree", "(IIIIII)V"⟩, 7), (⟨"SheetTrees$Tables", "choiceOf", "(IIII)I"⟩, 5), (⟨"SheetTrees$Layout", "addPiece", "(II)V"⟩, 7)]
theorem lw_r1 : ∀ q ∈ lw_privs_1, lw_okq q := List.forall_mem_cons.mpr ⟨lw_p0, List.forall_mem_cons.mpr ⟨lw_p1, List.forall_mem_cons.mpr ⟨lw_p2, List.forall_mem_cons.mpr ⟨lw_p3, List.forall_mem_cons.mpr ⟨lw_p4, List.forall_mem_cons.mpr ⟨lw_p5, List.forall_mem_cons.mpr ⟨lw_p6, List.forall_mem_cons.mpr ⟨lw_p7, List.forall_mem_cons.mpr ⟨lw_p8, List.forall_mem_cons.mpr ⟨lw_p9, List.forall_mem_cons.mpr ⟨lw_p10, List.forall_mem_cons.mpr ⟨lw_p11, List.forall_mem_cons.mpr ⟨lw_p12, List.forall_mem_cons.mpr ⟨lw_p13, List.forall_mem_cons.mpr ⟨lw_p14, List.forall_mem_cons.mpr ⟨lw_p15, fun _ h => absurd h List.not_mem_nil⟩⟩⟩⟩⟩⟩⟩⟩⟩⟩⟩⟩⟩⟩⟩⟩
theorem lw_p16 : lw_okq (⟨"SheetTrees$Layout", "areaToTake", "([LSheetTrees$Part;)I"⟩, 7) := ⟨⟨by decide +kernel, by decide +kernel⟩, List.mem_of_getElem? (i := 66) (by decide +kernel), List.mem_of_getElem? (i := 341) (by decide +kernel), List.mem_of_getElem? (i := 342) (by decide +kernel)⟩
theorem lw_p17 : lw_okq (⟨"SheetTrees$Part", "area", "()I"⟩, 5) := ⟨⟨by decide +kernel, by decide +kernel⟩, List.mem_of_getElem? (i := 127) (by decide +kernel), List.mem_of_getElem? (i := 346) (by decide +kernel), List.mem_of_getElem? (i := 347) (by decide +kernel)⟩
theorem lw_p18 : lw_okq (⟨"SheetTrees", "cutOneOf", "(I)V"⟩, 15) := ⟨⟨by decide +kernel, by decide +kernel⟩, List.mem_of_getElem? (i := 18) (by decide +kernel), List.mem_of_getElem? (i := 350) (by decide +kernel), List.mem_of_getElem? (i := 351) (by decide +kernel)⟩
theorem lw_p19 : lw_okq (⟨"SheetTrees$CutSheet", "start", "(ILSheetTrees$Sheet;LSheetTrees$Layout;)V"⟩, 13) := ⟨⟨by decide +kernel, by decide +kernel⟩, List.mem_of_getElem? (i := 157) (by decide +kernel), List.mem_of_getElem? (i := 354) (by decide +kernel), List.mem_of_getElem? (i := 355) (by decide +kernel)⟩
theorem lw_p20 : lw_okq (⟨"SheetTrees$Sheet", "area", "()I"⟩, 5) := ⟨⟨by decide +kernel, by decide +kernel⟩, List.mem_of_getElem? (i := 98) (by decide +kernel), List.mem_of_getElem? (i := 358) (by decide +kernel), List.mem_of_getElem? (i := 359) (by decide +kernel)⟩
theorem lw_p21 : lw_okq (⟨"SheetTrees$Layout", "partsUsed", "()I"⟩, 7) := ⟨⟨by decide +kernel, by decide +kernel⟩, List.mem_of_getElem? (i := 66) (by decide +kernel), List.mem_of_getElem? (i := 362) (by decide +kernel), List.mem_of_getElem? (i := 363) (by decide +kernel)⟩
theorem lw_p22 : lw_okq (⟨"SheetTrees", "takePieces", "(LSheetTrees$CutSheet;)V"⟩, 15) := ⟨⟨by decide +kernel, by decide +kernel⟩, List.mem_of_getElem? (i := 18) (by decide +kernel), List.mem_of_getElem? (i := 366) (by decide +kernel), List.mem_of_getElem? (i := 367) (by decide +kernel)⟩
theorem lw_p23 : lw_okq (⟨"SheetTrees", "keepRest", "(I)V"⟩, 15) := ⟨⟨by decide +kernel, by decide +kernel⟩, List.mem_of_getElem? (i := 18) (by decide +kernel), List.mem_of_getElem? (i := 373) (by decide +kernel), List.mem_of_getElem? (i := 374) (by decide +kernel)⟩
theorem lw_p24 : lw_okq (⟨"SheetTrees", "takePart", "(LSheetTrees$CutSheet;LSheetTrees$Part;I)V"⟩, 15) := ⟨⟨by decide +kernel, by decide +kernel⟩, List.mem_of_getElem? (i := 18) (by decide +kernel), List.mem_of_getElem? (i := 381) (by decide +kernel), List.mem_of_getElem? (i := 382) (by decide +kernel)⟩
theorem lw_p25 : lw_okq (⟨"SheetTrees", "firstAlike", "(LSheetTrees$CutSheet;)I"⟩, 15) := ⟨⟨by decide +kernel, by decide +kernel⟩, List.mem_of_getElem? (i := 18) (by decide +kernel), List.mem_of_getElem? (i := 386) (by decide +kernel), List.mem_of_getElem? (i := 387) (by decide +kernel)⟩
theorem lw_p26 : lw_okq (⟨"java/lang/Throwable", "fillInStackTrace", "(I)Ljava/lang/Throwable;"⟩, 6) := ⟨⟨by decide +kernel, by decide +kernel⟩, List.mem_of_getElem? (i := 451) (by decide +kernel), List.mem_of_getElem? (i := 449) (by decide +kernel), List.mem_of_getElem? (i := 450) (by decide +kernel)⟩
theorem lw_p27 : lw_okq (⟨"SheetTrees", "partAt", "(I)LSheetTrees$Part;"⟩, 15) := ⟨⟨by decide +kernel, by decide +kernel⟩, List.mem_of_getElem? (i := 18) (by decide +kernel), List.mem_of_getElem? (i := 516) (by decide +kernel), List.mem_of_getElem? (i := 517) (by decide +kernel)⟩
theorem lw_p28 : lw_okq (⟨"SheetTrees", "partsTold", "()I"⟩, 15) := ⟨⟨by decide +kernel, by decide +kernel⟩, List.mem_of_getElem? (i := 18) (by decide +kernel), List.mem_of_getElem? (i := 545) (by decide +kernel), List.mem_of_getElem? (i := 546) (by decide +kernel)⟩
theorem lw_p29 : lw_okq (⟨"SheetTrees$Tables", "valueOf", "(IIII)I"⟩, 5) := ⟨⟨by decide +kernel, by decide +kernel⟩, List.mem_of_getElem? (i := 41) (by decide +kernel), List.mem_of_getElem? (i := 549) (by decide +kernel), List.mem_of_getElem? (i := 550) (by decide +kernel)⟩
theorem lw_p30 : lw_okq (⟨"SheetTrees", "cutSheetAt", "(I)LSheetTrees$CutSheet;"⟩, 15) := ⟨⟨by decide +kernel, by decide +kernel⟩, List.mem_of_getElem? (i := 18) (by decide +kernel), List.mem_of_getElem? (i := 561) (by decide +kernel), List.mem_of_getElem? (i := 562) (by decide +kernel)⟩
theorem lw_p31 : lw_okq (⟨"SheetTrees", "needRun", "()V"⟩, 15) := ⟨⟨by decide +kernel, by decide +kernel⟩, List.mem_of_getElem? (i := 18) (by decide +kernel), List.mem_of_getElem? (i := 565) (by decide +kernel), List.mem_of_getElem? (i := 566) (by decide +kernel)⟩
def lw_privs_2 : List (MethodName × Nat) := [(⟨"SheetTrees$Layout", "areaToTake", "([LSheetTrees$Part;)I"⟩, 7), (⟨"SheetTrees$Part", "area", "()I"⟩, 5), (⟨"SheetTrees", "cutOneOf", "(I)V"⟩, 15), (⟨"SheetTrees$CutSheet", "start", "(ILSheetTrees$Sheet;LSheetTrees$Layout;)V"⟩, 13), (⟨"SheetTrees$Sheet", "area", "()I"⟩, 5), (⟨"SheetTrees$Layout", "partsUsed", "()I"⟩, 7), (⟨"SheetTrees", "takePieces", "(LSheetTrees$CutSheet;)V"⟩, 15), (⟨"SheetTrees", "keepRest", "(I)V"⟩, 15), (⟨"SheetTrees", "takePart", "(LSheetTrees$CutSheet;LSheetTrees$Part;I)V"⟩, 15), (⟨"SheetTrees", "firstAlike", "(LSheetTrees$CutSheet;)I"⟩, 15), (⟨"java/lang/Throwable", "fillInStackTrace", "(I)Ljava/lang/Throwable;"⟩, 6), (⟨"SheetTrees", "partAt", "(I)LSheetTrees$Part;"⟩, 15), (⟨"SheetTrees", "partsTold", "()I"⟩, 15), (⟨"SheetTrees$Tables", "valueOf", "(IIII)I"⟩, 5), (⟨"SheetTrees", "cutSheetAt", "(I)LSheetTrees$CutSheet;"⟩, 15), (⟨"SheetTrees", "needRun", "()V"⟩, 15)]
theorem lw_r2 : ∀ q ∈ lw_privs_2, lw_okq q := List.forall_mem_cons.mpr ⟨lw_p16, List.forall_mem_cons.mpr ⟨lw_p17, List.forall_mem_cons.mpr ⟨lw_p18, List.forall_mem_cons.mpr ⟨lw_p19, List.forall_mem_cons.mpr ⟨lw_p20, List.forall_mem_cons.mpr ⟨lw_p21, List.forall_mem_cons.mpr ⟨lw_p22, List.forall_mem_cons.mpr ⟨lw_p23, List.forall_mem_cons.mpr ⟨lw_p24, List.forall_mem_cons.mpr ⟨lw_p25, List.forall_mem_cons.mpr ⟨lw_p26, List.forall_mem_cons.mpr ⟨lw_p27, List.forall_mem_cons.mpr ⟨lw_p28, List.forall_mem_cons.mpr ⟨lw_p29, List.forall_mem_cons.mpr ⟨lw_p30, List.forall_mem_cons.mpr ⟨lw_p31, fun _ h => absurd h List.not_mem_nil⟩⟩⟩⟩⟩⟩⟩⟩⟩⟩⟩⟩⟩⟩⟩⟩
theorem lw_p32 : lw_okq (⟨"SheetTreesModel", "wantAll", "()V"⟩, 34) := ⟨⟨by decide +kernel, by decide +kernel⟩, List.mem_of_getElem? (i := 608) (by decide +kernel), List.mem_of_getElem? (i := 741) (by decide +kernel), List.mem_of_getElem? (i := 742) (by decide +kernel)⟩
theorem lw_p33 : lw_okq (⟨"SheetTreesModel", "fill", "()V"⟩, 34) := ⟨⟨by decide +kernel, by decide +kernel⟩, List.mem_of_getElem? (i := 608) (by decide +kernel), List.mem_of_getElem? (i := 745) (by decide +kernel), List.mem_of_getElem? (i := 746) (by decide +kernel)⟩
theorem lw_p34 : lw_okq (⟨"SheetTreesModel", "fillOne", "(IIII)V"⟩, 34) := ⟨⟨by decide +kernel, by decide +kernel⟩, List.mem_of_getElem? (i := 608) (by decide +kernel), List.mem_of_getElem? (i := 749) (by decide +kernel), List.mem_of_getElem? (i := 750) (by decide +kernel)⟩
theorem lw_p35 : lw_okq (⟨"SheetTreesModel", "isJust", "(III)Z"⟩, 34) := ⟨⟨by decide +kernel, by decide +kernel⟩, List.mem_of_getElem? (i := 608) (by decide +kernel), List.mem_of_getElem? (i := 756) (by decide +kernel), List.mem_of_getElem? (i := 757) (by decide +kernel)⟩
theorem lw_p36 : lw_okq (⟨"SheetTreesModel", "better", "(IIII)V"⟩, 34) := ⟨⟨by decide +kernel, by decide +kernel⟩, List.mem_of_getElem? (i := 608) (by decide +kernel), List.mem_of_getElem? (i := 760) (by decide +kernel), List.mem_of_getElem? (i := 761) (by decide +kernel)⟩
theorem lw_p37 : lw_okq (⟨"SheetTreesModel", "walk", "(II)V"⟩, 34) := ⟨⟨by decide +kernel, by decide +kernel⟩, List.mem_of_getElem? (i := 608) (by decide +kernel), List.mem_of_getElem? (i := 768) (by decide +kernel), List.mem_of_getElem? (i := 769) (by decide +kernel)⟩
theorem lw_p38 : lw_okq (⟨"SheetTreesModel", "wayOf", "(I)I"⟩, 34) := ⟨⟨by decide +kernel, by decide +kernel⟩, List.mem_of_getElem? (i := 608) (by decide +kernel), List.mem_of_getElem? (i := 772) (by decide +kernel), List.mem_of_getElem? (i := 773) (by decide +kernel)⟩
theorem lw_p39 : lw_okq (⟨"SheetTreesModel", "push", "(IIIIIII)V"⟩, 34) := ⟨⟨by decide +kernel, by decide +kernel⟩, List.mem_of_getElem? (i := 608) (by decide +kernel), List.mem_of_getElem? (i := 776) (by decide +kernel), List.mem_of_getElem? (i := 777) (by decide +kernel)⟩
theorem lw_p40 : lw_okq (⟨"SheetTreesModel", "keepRest", "(IIIII)V"⟩, 34) := ⟨⟨by decide +kernel, by decide +kernel⟩, List.mem_of_getElem? (i := 608) (by decide +kernel), List.mem_of_getElem? (i := 780) (by decide +kernel), List.mem_of_getElem? (i := 781) (by decide +kernel)⟩
theorem lw_p41 : lw_okq (⟨"SheetTreesModel", "take", "(IIIIII)V"⟩, 34) := ⟨⟨by decide +kernel, by decide +kernel⟩, List.mem_of_getElem? (i := 608) (by decide +kernel), List.mem_of_getElem? (i := 784) (by decide +kernel), List.mem_of_getElem? (i := 785) (by decide +kernel)⟩
theorem lw_p42 : lw_okq (⟨"SheetTreesModel", "look", "(III)V"⟩, 34) := ⟨⟨by decide +kernel, by decide +kernel⟩, List.mem_of_getElem? (i := 608) (by decide +kernel), List.mem_of_getElem? (i := 792) (by decide +kernel), List.mem_of_getElem? (i := 793) (by decide +kernel)⟩
theorem lw_p43 : lw_okq (⟨"SheetTreesModel", "isAlike", "(II)Z"⟩, 34) := ⟨⟨by decide +kernel, by decide +kernel⟩, List.mem_of_getElem? (i := 608) (by decide +kernel), List.mem_of_getElem? (i := 796) (by decide +kernel), List.mem_of_getElem? (i := 797) (by decide +kernel)⟩
def lw_privs_3 : List (MethodName × Nat) := [(⟨"SheetTreesModel", "wantAll", "()V"⟩, 34), (⟨"SheetTreesModel", "fill", "()V"⟩, 34), (⟨"SheetTreesModel", "fillOne", "(IIII)V"⟩, 34), (⟨"SheetTreesModel", "isJust", "(III)Z"⟩, 34), (⟨"SheetTreesModel", "better", "(IIII)V"⟩, 34), (⟨"SheetTreesModel", "walk", "(II)V"⟩, 34), (⟨"SheetTreesModel", "wayOf", "(I)I"⟩, 34), (⟨"SheetTreesModel", "push", "(IIIIIII)V"⟩, 34), (⟨"SheetTreesModel", "keepRest", "(IIIII)V"⟩, 34), (⟨"SheetTreesModel", "take", "(IIIIII)V"⟩, 34), (⟨"SheetTreesModel", "look", "(III)V"⟩, 34), (⟨"SheetTreesModel", "isAlike", "(II)Z"⟩, 34)]
theorem lw_r3 : ∀ q ∈ lw_privs_3, lw_okq q := List.forall_mem_cons.mpr ⟨lw_p32, List.forall_mem_cons.mpr ⟨lw_p33, List.forall_mem_cons.mpr ⟨lw_p34, List.forall_mem_cons.mpr ⟨lw_p35, List.forall_mem_cons.mpr ⟨lw_p36, List.forall_mem_cons.mpr ⟨lw_p37, List.forall_mem_cons.mpr ⟨lw_p38, List.forall_mem_cons.mpr ⟨lw_p39, List.forall_mem_cons.mpr ⟨lw_p40, List.forall_mem_cons.mpr ⟨lw_p41, List.forall_mem_cons.mpr ⟨lw_p42, List.forall_mem_cons.mpr ⟨lw_p43, fun _ h => absurd h List.not_mem_nil⟩⟩⟩⟩⟩⟩⟩⟩⟩⟩⟩⟩
def lw_privs : List (MethodName × Nat) := lw_privs_1 ++ (lw_privs_2 ++ (lw_privs_3))
def lw_tbl : List Cond := k2_sels lw_privs ++ tables_1
theorem lw_privs_ok : ∀ q ∈ lw_privs, lw_okq q := by
  show ∀ q ∈ lw_privs_1 ++ (lw_privs_2 ++ (lw_privs_3)), lw_okq q
  exact List.forall_mem_append.mpr ⟨lw_r1, List.forall_mem_append.mpr ⟨lw_r2, lw_r3⟩⟩

/-- what stays true of the tables while they warm -/
def tb_keep : Cond → Bool
  | .fieldLinkNest .. | .methodLinkNest .. | .castable .. | .declares .. | .arrayOver (.object _) => true
  | w => goodWord w
def tb_l : List Cond := lw_tbl.filter tb_keep
theorem tb_at {w : Cond} (i : Nat) (h : lw_tbl[i]? = some w) (hk : tb_keep w = true) : w ∈ tb_l := List.mem_filter.mpr ⟨List.mem_of_getElem? h, hk⟩
def tb_ok (U : State) : Prop := ∀ w ∈ tb_l, ∀ a : Array Value, w.before a U = true
theorem tb_moved {s U : State} (hW : s.WarmedH U.vm) (h : tb_ok s) : tb_ok U := fun w hw a => by
  have hk := (List.mem_filter.mp hw).2
  have h0 := h w hw
  cases w with
  | fieldLinkNest x1 x2 x3 x4 x5 x6 => exact va_Nw.use rfl (va_Nw.warmF hW (va_Nw.of rfl (h0 #[])))
  | methodLinkNest x1 x2 x3 x4 => exact va_Nw.use rfl (va_Nw.warmM hW (va_Nw.of rfl (h0 #[])))
  | castable x1 x2 => exact va_Nw.use rfl (va_Nw.warmC hW (va_Nw.of rfl (h0 #[])))
  | declares x1 => exact va_Nw.use rfl (va_Nw.warmD hW (va_Nw.of rfl (h0 #[])))
  | arrayOver ty =>
    cases ty with
    | object C => exact va_AO.use (va_AO.moved hW.alike (va_AO.of (h0 #[])))
    | _ => exact Bool.noConfusion (show false = true from hk)
  | _ => exact word_at hW (good_of_word hk) (h0 a)
theorem tb_same {s U : State} (hv : U.vm = s.vm) (h : tb_ok s) : tb_ok U := tb_moved (s := s) (by rw [hv]; exact State.WarmedH.refl s) h
def R_CS : String := "SheetTrees$CutSheet"
def F_CS : u_T := fun k => match k with
  | 0 => ("SheetTrees$CutSheet", "sheet", "I", false)
  | 1 => ("SheetTrees$CutSheet", "cents", "I", false)
  | 2 => ("SheetTrees$CutSheet", "area", "I", false)
  | 3 => ("SheetTrees$CutSheet", "way", "I", false)
  | 4 => ("SheetTrees$CutSheet", "cuts", "I", false)
  | 5 => ("SheetTrees$CutSheet", "minutes", "I", false)
  | 6 => ("SheetTrees$CutSheet", "partsUsed", "I", false)
  | 7 => ("SheetTrees$CutSheet", "takenFrom", "I", false)
  | 8 => ("SheetTrees$CutSheet", "takenCount", "I", false)
  | 9 => ("SheetTrees$CutSheet", "takenArea", "I", false)
  | 10 => ("SheetTrees$CutSheet", "restFrom", "I", false)
  | 11 => ("SheetTrees$CutSheet", "restCount", "I", false)
  | _ => ("SheetTrees$CutSheet", "firstAlike", "I", false)
def t_CS : Nat → FieldType := fun k => match k with
  | 0 => .int
  | 1 => .int
  | 2 => .int
  | 3 => .int
  | 4 => .int
  | 5 => .int
  | 6 => .int
  | 7 => .int
  | 8 => .int
  | 9 => .int
  | 10 => .int
  | 11 => .int
  | _ => .int
theorem n_CS : ∀ a, a < 13 → ∀ b, b < 13 → a ≠ b → (F_CS a).2.1 ≠ (F_CS b).2.1 := by decide +kernel
theorem t_CS_ok : ∀ k, k < 13 → parseFieldDescriptor (F_CS k).2.2.1 = some (t_CS k) := by decide +kernel
def R_LY : String := "SheetTrees$Layout"
def F_LY : u_T := fun k => match k with
  | 0 => ("SheetTrees$Layout", "tables", "LSheetTrees$Tables;", true)
  | 1 => ("SheetTrees$Layout", "pieces", "[I", true)
  | 2 => ("SheetTrees$Layout", "copies", "[I", true)
  | 3 => ("SheetTrees$Layout", "pieceCount", "I", false)
  | 4 => ("SheetTrees$Layout", "way", "I", false)
  | 5 => ("SheetTrees$Layout", "cuts", "I", false)
  | _ => ("SheetTrees$Layout", "minutes", "I", false)
def t_LY : Nat → FieldType := fun k => match k with
  | 0 => .object "SheetTrees$Tables"
  | 1 => .array .int
  | 2 => .array .int
  | 3 => .int
  | 4 => .int
  | 5 => .int
  | _ => .int
theorem n_LY : ∀ a, a < 7 → ∀ b, b < 7 → a ≠ b → (F_LY a).2.1 ≠ (F_LY b).2.1 := by decide +kernel
theorem t_LY_ok : ∀ k, k < 7 → parseFieldDescriptor (F_LY k).2.2.1 = some (t_LY k) := by decide +kernel
def R_PA : String := "SheetTrees$Part"
def F_PA : u_T := fun k => match k with
  | 0 => ("SheetTrees$Part", "width", "I", false)
  | 1 => ("SheetTrees$Part", "height", "I", false)
  | 2 => ("SheetTrees$Part", "turns", "Z", false)
  | 3 => ("SheetTrees$Part", "count", "I", false)
  | _ => ("SheetTrees$Part", "left", "I", false)
def t_PA : Nat → FieldType := fun k => match k with
  | 0 => .int
  | 1 => .int
  | 2 => .boolean
  | 3 => .int
  | _ => .int
theorem n_PA : ∀ a, a < 5 → ∀ b, b < 5 → a ≠ b → (F_PA a).2.1 ≠ (F_PA b).2.1 := by decide +kernel
theorem t_PA_ok : ∀ k, k < 5 → parseFieldDescriptor (F_PA k).2.2.1 = some (t_PA k) := by decide +kernel
def R_SH : String := "SheetTrees$Sheet"
def F_SH : u_T := fun k => match k with
  | 0 => ("SheetTrees$Sheet", "width", "I", false)
  | 1 => ("SheetTrees$Sheet", "height", "I", false)
  | 2 => ("SheetTrees$Sheet", "cents", "I", false)
  | 3 => ("SheetTrees$Sheet", "stock", "I", false)
  | _ => ("SheetTrees$Sheet", "unused", "I", false)
def t_SH : Nat → FieldType := fun k => match k with
  | 0 => .int
  | 1 => .int
  | 2 => .int
  | 3 => .int
  | _ => .int
theorem n_SH : ∀ a, a < 5 → ∀ b, b < 5 → a ≠ b → (F_SH a).2.1 ≠ (F_SH b).2.1 := by decide +kernel
theorem t_SH_ok : ∀ k, k < 5 → parseFieldDescriptor (F_SH k).2.2.1 = some (t_SH k) := by decide +kernel
def R_TB : String := "SheetTrees$Tables"
def F_TB : u_T := fun k => match k with
  | 0 => ("SheetTrees$Tables", "kerf", "I", true)
  | 1 => ("SheetTrees$Tables", "scores", "[I", true)
  | 2 => ("SheetTrees$Tables", "choices", "[I", true)
  | 3 => ("SheetTrees$Tables", "wanted", "I", false)
  | _ => ("SheetTrees$Tables", "stagesFilled", "I", false)
def t_TB : Nat → FieldType := fun k => match k with
  | 0 => .int
  | 1 => .array .int
  | 2 => .array .int
  | 3 => .int
  | _ => .int
theorem n_TB : ∀ a, a < 5 → ∀ b, b < 5 → a ≠ b → (F_TB a).2.1 ≠ (F_TB b).2.1 := by decide +kernel
theorem t_TB_ok : ∀ k, k < 5 → parseFieldDescriptor (F_TB k).2.2.1 = some (t_TB k) := by decide +kernel
def R_ST : String := "SheetTrees"
def F_ST : u_T := fun k => match k with
  | 0 => ("SheetTrees", "stages", "I", true)
  | 1 => ("SheetTrees", "least", "I", true)
  | 2 => ("SheetTrees", "sheets", "[LSheetTrees$Sheet;", true)
  | 3 => ("SheetTrees", "parts", "[LSheetTrees$Part;", true)
  | 4 => ("SheetTrees", "cutSheets", "[LSheetTrees$CutSheet;", true)
  | 5 => ("SheetTrees", "takenPieces", "[I", true)
  | 6 => ("SheetTrees", "restPieces", "[I", true)
  | 7 => ("SheetTrees", "tables", "LSheetTrees$Tables;", true)
  | 8 => ("SheetTrees", "layout", "LSheetTrees$Layout;", true)
  | 9 => ("SheetTrees", "sheetCount", "I", false)
  | 10 => ("SheetTrees", "partCount", "I", false)
  | 11 => ("SheetTrees", "cutCount", "I", false)
  | 12 => ("SheetTrees", "takenCount", "I", false)
  | 13 => ("SheetTrees", "restCount", "I", false)
  | _ => ("SheetTrees", "ran", "Z", false)
def t_ST : Nat → FieldType := fun k => match k with
  | 0 => .int
  | 1 => .int
  | 2 => .array (.object "SheetTrees$Sheet")
  | 3 => .array (.object "SheetTrees$Part")
  | 4 => .array (.object "SheetTrees$CutSheet")
  | 5 => .array .int
  | 6 => .array .int
  | 7 => .object "SheetTrees$Tables"
  | 8 => .object "SheetTrees$Layout"
  | 9 => .int
  | 10 => .int
  | 11 => .int
  | 12 => .int
  | 13 => .int
  | _ => .boolean
theorem n_ST : ∀ a, a < 15 → ∀ b, b < 15 → a ≠ b → (F_ST a).2.1 ≠ (F_ST b).2.1 := by decide +kernel
theorem t_ST_ok : ∀ k, k < 15 → parseFieldDescriptor (F_ST k).2.2.1 = some (t_ST k) := by decide +kernel
def R_MO : String := "SheetTreesModel"
def F_MO : u_T := fun k => match k with
  | 0 => ("SheetTreesModel", "code", "I", false)
  | 1 => ("SheetTreesModel", "kerf", "I", true)
  | 2 => ("SheetTreesModel", "stages", "I", true)
  | 3 => ("SheetTreesModel", "least", "I", true)
  | 4 => ("SheetTreesModel", "sheets", "I", false)
  | 5 => ("SheetTreesModel", "sheetWidth", "[I", true)
  | 6 => ("SheetTreesModel", "sheetHeight", "[I", true)
  | 7 => ("SheetTreesModel", "cents", "[I", true)
  | 8 => ("SheetTreesModel", "stock", "[I", true)
  | 9 => ("SheetTreesModel", "parts", "I", false)
  | 10 => ("SheetTreesModel", "partWidth", "[I", true)
  | 11 => ("SheetTreesModel", "partHeight", "[I", true)
  | 12 => ("SheetTreesModel", "counts", "[I", true)
  | 13 => ("SheetTreesModel", "turns", "[Z", true)
  | 14 => ("SheetTreesModel", "wanted", "[I", true)
  | 15 => ("SheetTreesModel", "inStock", "[I", true)
  | 16 => ("SheetTreesModel", "still", "[I", true)
  | 17 => ("SheetTreesModel", "values", "[I", true)
  | 18 => ("SheetTreesModel", "cuts", "[I", true)
  | 19 => ("SheetTreesModel", "choices", "[I", true)
  | 20 => ("SheetTreesModel", "waiting", "[I", true)
  | 21 => ("SheetTreesModel", "ran", "Z", false)
  | 22 => ("SheetTreesModel", "done", "I", false)
  | 23 => ("SheetTreesModel", "ofSheet", "[I", true)
  | 24 => ("SheetTreesModel", "firstWay", "[I", true)
  | 25 => ("SheetTreesModel", "cutCount", "[I", true)
  | 26 => ("SheetTreesModel", "minutes", "[I", true)
  | 27 => ("SheetTreesModel", "takenCount", "[I", true)
  | 28 => ("SheetTreesModel", "takenArea", "[I", true)
  | 29 => ("SheetTreesModel", "restCount", "[I", true)
  | 30 => ("SheetTreesModel", "nodeCount", "[I", true)
  | 31 => ("SheetTreesModel", "nodes", "[I", true)
  | 32 => ("SheetTreesModel", "takens", "[I", true)
  | _ => ("SheetTreesModel", "rests", "[I", true)
def t_MO : Nat → FieldType := fun k => match k with
  | 0 => .int
  | 1 => .int
  | 2 => .int
  | 3 => .int
  | 4 => .int
  | 5 => .array .int
  | 6 => .array .int
  | 7 => .array .int
  | 8 => .array .int
  | 9 => .int
  | 10 => .array .int
  | 11 => .array .int
  | 12 => .array .int
  | 13 => .array .boolean
  | 14 => .array .int
  | 15 => .array .int
  | 16 => .array .int
  | 17 => .array .int
  | 18 => .array .int
  | 19 => .array .int
  | 20 => .array .int
  | 21 => .boolean
  | 22 => .int
  | 23 => .array .int
  | 24 => .array .int
  | 25 => .array .int
  | 26 => .array .int
  | 27 => .array .int
  | 28 => .array .int
  | 29 => .array .int
  | 30 => .array .int
  | 31 => .array .int
  | 32 => .array .int
  | _ => .array .int
theorem n_MO : ∀ a, a < 34 → ∀ b, b < 34 → a ≠ b → (F_MO a).2.1 ≠ (F_MO b).2.1 := by decide +kernel
theorem t_MO_ok : ∀ k, k < 34 → parseFieldDescriptor (F_MO k).2.2.1 = some (t_MO k) := by decide +kernel
def R_LW : String := "SheetTreesLaw"
def R_PI : String := "SheetTrees$Piece"
def R_AR : String := "java/util/Arrays"
abbrev classes : List vw_C := [(R_CS, F_CS, 13), (R_LY, F_LY, 7), (R_PA, F_PA, 5), (R_SH, F_SH, 5), (R_TB, F_TB, 5), (R_ST, F_ST, 15), (R_MO, F_MO, 34)]
set_option maxRecDepth 100000 in
theorem i_CS : ∀ w ∈ u_ws R_CS F_CS 13, w ∈ tb_l := by
  intro w hw
  obtain ⟨k, hk, rfl⟩ := List.mem_map.mp hw
  have hk := List.mem_range.mp hk
  rcases (show k = 0 ∨ k = 1 ∨ k = 2 ∨ k = 3 ∨ k = 4 ∨ k = 5 ∨ k = 6 ∨ k = 7 ∨ k = 8 ∨ k = 9 ∨ k = 10 ∨ k = 11 ∨ k = 12 by omega) with rfl | rfl | rfl | rfl | rfl | rfl | rfl | rfl | rfl | rfl | rfl | rfl | rfl
  · exact tb_at 232 rfl rfl
  · exact tb_at 234 rfl rfl
  · exact tb_at 236 rfl rfl
  · exact tb_at 238 rfl rfl
  · exact tb_at 240 rfl rfl
  · exact tb_at 242 rfl rfl
  · exact tb_at 244 rfl rfl
  · exact tb_at 246 rfl rfl
  · exact tb_at 248 rfl rfl
  · exact tb_at 250 rfl rfl
  · exact tb_at 252 rfl rfl
  · exact tb_at 254 rfl rfl
  · exact tb_at 256 rfl rfl
set_option maxRecDepth 100000 in
theorem i_LY : ∀ w ∈ u_ws R_LY F_LY 7, w ∈ tb_l := by
  intro w hw
  obtain ⟨k, hk, rfl⟩ := List.mem_map.mp hw
  have hk := List.mem_range.mp hk
  rcases (show k = 0 ∨ k = 1 ∨ k = 2 ∨ k = 3 ∨ k = 4 ∨ k = 5 ∨ k = 6 by omega) with rfl | rfl | rfl | rfl | rfl | rfl | rfl
  · exact tb_at 127 rfl rfl
  · exact tb_at 129 rfl rfl
  · exact tb_at 131 rfl rfl
  · exact tb_at 133 rfl rfl
  · exact tb_at 135 rfl rfl
  · exact tb_at 137 rfl rfl
  · exact tb_at 139 rfl rfl
set_option maxRecDepth 100000 in
theorem i_PA : ∀ w ∈ u_ws R_PA F_PA 5, w ∈ tb_l := by
  intro w hw
  obtain ⟨k, hk, rfl⟩ := List.mem_map.mp hw
  have hk := List.mem_range.mp hk
  rcases (show k = 0 ∨ k = 1 ∨ k = 2 ∨ k = 3 ∨ k = 4 by omega) with rfl | rfl | rfl | rfl | rfl
  · exact tb_at 190 rfl rfl
  · exact tb_at 192 rfl rfl
  · exact tb_at 194 rfl rfl
  · exact tb_at 196 rfl rfl
  · exact tb_at 198 rfl rfl
set_option maxRecDepth 100000 in
theorem i_SH : ∀ w ∈ u_ws R_SH F_SH 5, w ∈ tb_l := by
  intro w hw
  obtain ⟨k, hk, rfl⟩ := List.mem_map.mp hw
  have hk := List.mem_range.mp hk
  rcases (show k = 0 ∨ k = 1 ∨ k = 2 ∨ k = 3 ∨ k = 4 by omega) with rfl | rfl | rfl | rfl | rfl
  · exact tb_at 160 rfl rfl
  · exact tb_at 162 rfl rfl
  · exact tb_at 164 rfl rfl
  · exact tb_at 166 rfl rfl
  · exact tb_at 168 rfl rfl
set_option maxRecDepth 100000 in
theorem i_TB : ∀ w ∈ u_ws R_TB F_TB 5, w ∈ tb_l := by
  intro w hw
  obtain ⟨k, hk, rfl⟩ := List.mem_map.mp hw
  have hk := List.mem_range.mp hk
  rcases (show k = 0 ∨ k = 1 ∨ k = 2 ∨ k = 3 ∨ k = 4 by omega) with rfl | rfl | rfl | rfl | rfl
  · exact tb_at 97 rfl rfl
  · exact tb_at 99 rfl rfl
  · exact tb_at 101 rfl rfl
  · exact tb_at 103 rfl rfl
  · exact tb_at 105 rfl rfl
set_option maxRecDepth 100000 in
theorem i_ST : ∀ w ∈ u_ws R_ST F_ST 15, w ∈ tb_l := by
  intro w hw
  obtain ⟨k, hk, rfl⟩ := List.mem_map.mp hw
  have hk := List.mem_range.mp hk
  rcases (show k = 0 ∨ k = 1 ∨ k = 2 ∨ k = 3 ∨ k = 4 ∨ k = 5 ∨ k = 6 ∨ k = 7 ∨ k = 8 ∨ k = 9 ∨ k = 10 ∨ k = 11 ∨ k = 12 ∨ k = 13 ∨ k = 14 by omega) with rfl | rfl | rfl | rfl | rfl | rfl | rfl | rfl | rfl | rfl | rfl | rfl | rfl | rfl | rfl
  · exact tb_at 274 rfl rfl
  · exact tb_at 276 rfl rfl
  · exact tb_at 278 rfl rfl
  · exact tb_at 280 rfl rfl
  · exact tb_at 282 rfl rfl
  · exact tb_at 284 rfl rfl
  · exact tb_at 286 rfl rfl
  · exact tb_at 288 rfl rfl
  · exact tb_at 290 rfl rfl
  · exact tb_at 292 rfl rfl
  · exact tb_at 294 rfl rfl
  · exact tb_at 296 rfl rfl
  · exact tb_at 298 rfl rfl
  · exact tb_at 300 rfl rfl
  · exact tb_at 302 rfl rfl
set_option maxRecDepth 100000 in
theorem i_MO : ∀ w ∈ u_ws R_MO F_MO 34, w ∈ tb_l := by
  intro w hw
  obtain ⟨k, hk, rfl⟩ := List.mem_map.mp hw
  have hk := List.mem_range.mp hk
  rcases (show k = 0 ∨ k = 1 ∨ k = 2 ∨ k = 3 ∨ k = 4 ∨ k = 5 ∨ k = 6 ∨ k = 7 ∨ k = 8 ∨ k = 9 ∨ k = 10 ∨ k = 11 ∨ k = 12 ∨ k = 13 ∨ k = 14 ∨ k = 15 ∨ k = 16 ∨ k = 17 ∨ k = 18 ∨ k = 19 ∨ k = 20 ∨ k = 21 ∨ k = 22 ∨ k = 23 ∨ k = 24 ∨ k = 25 ∨ k = 26 ∨ k = 27 ∨ k = 28 ∨ k = 29 ∨ k = 30 ∨ k = 31 ∨ k = 32 ∨ k = 33 by omega) with rfl | rfl | rfl | rfl | rfl | rfl | rfl | rfl | rfl | rfl | rfl | rfl | rfl | rfl | rfl | rfl | rfl | rfl | rfl | rfl | rfl | rfl | rfl | rfl | rfl | rfl | rfl | rfl | rfl | rfl | rfl | rfl | rfl | rfl
  · exact tb_at 691 rfl rfl
  · exact tb_at 693 rfl rfl
  · exact tb_at 695 rfl rfl
  · exact tb_at 697 rfl rfl
  · exact tb_at 699 rfl rfl
  · exact tb_at 701 rfl rfl
  · exact tb_at 703 rfl rfl
  · exact tb_at 705 rfl rfl
  · exact tb_at 707 rfl rfl
  · exact tb_at 709 rfl rfl
  · exact tb_at 711 rfl rfl
  · exact tb_at 713 rfl rfl
  · exact tb_at 715 rfl rfl
  · exact tb_at 717 rfl rfl
  · exact tb_at 719 rfl rfl
  · exact tb_at 721 rfl rfl
  · exact tb_at 723 rfl rfl
  · exact tb_at 725 rfl rfl
  · exact tb_at 727 rfl rfl
  · exact tb_at 729 rfl rfl
  · exact tb_at 731 rfl rfl
  · exact tb_at 733 rfl rfl
  · exact tb_at 735 rfl rfl
  · exact tb_at 737 rfl rfl
  · exact tb_at 739 rfl rfl
  · exact tb_at 741 rfl rfl
  · exact tb_at 743 rfl rfl
  · exact tb_at 745 rfl rfl
  · exact tb_at 747 rfl rfl
  · exact tb_at 749 rfl rfl
  · exact tb_at 751 rfl rfl
  · exact tb_at 753 rfl rfl
  · exact tb_at 755 rfl rfl
  · exact tb_at 757 rfl rfl
abbrev b_ST_init : ByteArray := prog_1_method_1_code
def y_ST_init : MethodName := ⟨"SheetTrees", "<init>", "(III)V"⟩
abbrev b_ST_sheet : ByteArray := prog_1_method_2_code
def y_ST_sheet : MethodName := ⟨"SheetTrees", "sheet", "(IIII)I"⟩
abbrev b_ST_part : ByteArray := prog_1_method_3_code
def y_ST_part : MethodName := ⟨"SheetTrees", "part", "(IIIZ)I"⟩
abbrev b_ST_count : ByteArray := prog_1_method_4_code
def y_ST_count : MethodName := ⟨"SheetTrees", "count", "(II)I"⟩
abbrev b_ST_worth : ByteArray := prog_1_method_5_code
def y_ST_worth : MethodName := ⟨"SheetTrees", "worth", "(IIII)I"⟩
abbrev b_ST_run : ByteArray := prog_1_method_6_code
def y_ST_run : MethodName := ⟨"SheetTrees", "run", "()I"⟩
abbrev b_ST_cut : ByteArray := prog_1_method_7_code
def y_ST_cut : MethodName := ⟨"SheetTrees", "cut", "(II)I"⟩
abbrev b_ST_taken : ByteArray := prog_1_method_8_code
def y_ST_taken : MethodName := ⟨"SheetTrees", "taken", "(III)I"⟩
abbrev b_ST_rest : ByteArray := prog_1_method_9_code
def y_ST_rest : MethodName := ⟨"SheetTrees", "rest", "(III)I"⟩
abbrev b_ST_left : ByteArray := prog_1_method_10_code
def y_ST_left : MethodName := ⟨"SheetTrees", "left", "(I)I"⟩
abbrev b_ST_all : ByteArray := prog_1_method_11_code
def y_ST_all : MethodName := ⟨"SheetTrees", "all", "(I)J"⟩
abbrev b_ST_bound : ByteArray := prog_1_method_12_code
def y_ST_bound : MethodName := ⟨"SheetTrees", "bound", "()I"⟩
abbrev b_ST_nearest : ByteArray := prog_1_method_13_code
def y_ST_nearest : MethodName := ⟨"SheetTrees", "nearest", "(III)I"⟩
abbrev b_ST_isWithin : ByteArray := prog_1_method_14_code
def y_ST_isWithin : MethodName := ⟨"SheetTrees", "isWithin", "(III)Z"⟩
abbrev b_ST_isSide : ByteArray := prog_1_method_15_code
def y_ST_isSide : MethodName := ⟨"SheetTrees", "isSide", "(I)Z"⟩
abbrev b_ST_pieceAt : ByteArray := prog_1_method_16_code
def y_ST_pieceAt : MethodName := ⟨"SheetTrees", "pieceAt", "([II)I"⟩
abbrev b_ST_needRun : ByteArray := prog_1_method_17_code
def y_ST_needRun : MethodName := ⟨"SheetTrees", "needRun", "()V"⟩
abbrev b_ST_partAt : ByteArray := prog_1_method_18_code
def y_ST_partAt : MethodName := ⟨"SheetTrees", "partAt", "(I)LSheetTrees$Part;"⟩
abbrev b_ST_cutSheetAt : ByteArray := prog_1_method_19_code
def y_ST_cutSheetAt : MethodName := ⟨"SheetTrees", "cutSheetAt", "(I)LSheetTrees$CutSheet;"⟩
abbrev b_ST_partsTold : ByteArray := prog_1_method_20_code
def y_ST_partsTold : MethodName := ⟨"SheetTrees", "partsTold", "()I"⟩
abbrev b_ST_partsStillWanted : ByteArray := prog_1_method_21_code
def y_ST_partsStillWanted : MethodName := ⟨"SheetTrees", "partsStillWanted", "()I"⟩
abbrev b_ST_startRun : ByteArray := prog_1_method_22_code
def y_ST_startRun : MethodName := ⟨"SheetTrees", "startRun", "()V"⟩
abbrev b_ST_bestSheet : ByteArray := prog_1_method_23_code
def y_ST_bestSheet : MethodName := ⟨"SheetTrees", "bestSheet", "()I"⟩
abbrev b_ST_cutOneOf : ByteArray := prog_1_method_24_code
def y_ST_cutOneOf : MethodName := ⟨"SheetTrees", "cutOneOf", "(I)V"⟩
abbrev b_ST_takePieces : ByteArray := prog_1_method_25_code
def y_ST_takePieces : MethodName := ⟨"SheetTrees", "takePieces", "(LSheetTrees$CutSheet;)V"⟩
abbrev b_ST_takePart : ByteArray := prog_1_method_26_code
def y_ST_takePart : MethodName := ⟨"SheetTrees", "takePart", "(LSheetTrees$CutSheet;LSheetTrees$Part;I)V"⟩
abbrev b_ST_keepRest : ByteArray := prog_1_method_27_code
def y_ST_keepRest : MethodName := ⟨"SheetTrees", "keepRest", "(I)V"⟩
abbrev b_ST_firstAlike : ByteArray := prog_1_method_28_code
def y_ST_firstAlike : MethodName := ⟨"SheetTrees", "firstAlike", "(LSheetTrees$CutSheet;)I"⟩
abbrev b_MO_init : ByteArray := prog_9_method_1_code
def y_MO_init : MethodName := ⟨"SheetTreesModel", "<init>", "(III)V"⟩
abbrev b_MO_thrown : ByteArray := prog_9_method_2_code
def y_MO_thrown : MethodName := ⟨"SheetTreesModel", "thrown", "()I"⟩
abbrev b_MO_in : ByteArray := prog_9_method_3_code
def y_MO_in : MethodName := ⟨"SheetTreesModel", "in", "(III)Z"⟩
abbrev b_MO_sheet : ByteArray := prog_9_method_4_code
def y_MO_sheet : MethodName := ⟨"SheetTreesModel", "sheet", "(IIII)I"⟩
abbrev b_MO_part : ByteArray := prog_9_method_5_code
def y_MO_part : MethodName := ⟨"SheetTreesModel", "part", "(IIIZ)I"⟩
abbrev b_MO_count : ByteArray := prog_9_method_6_code
def y_MO_count : MethodName := ⟨"SheetTreesModel", "count", "(II)I"⟩
abbrev b_MO_place : ByteArray := prog_9_method_7_code
def y_MO_place : MethodName := ⟨"SheetTreesModel", "place", "(IIII)I"⟩
abbrev b_MO_isJust : ByteArray := prog_9_method_8_code
def y_MO_isJust : MethodName := ⟨"SheetTreesModel", "isJust", "(III)Z"⟩
abbrev b_MO_better : ByteArray := prog_9_method_9_code
def y_MO_better : MethodName := ⟨"SheetTreesModel", "better", "(IIII)V"⟩
abbrev b_MO_fillOne : ByteArray := prog_9_method_10_code
def y_MO_fillOne : MethodName := ⟨"SheetTreesModel", "fillOne", "(IIII)V"⟩
abbrev b_MO_fill : ByteArray := prog_9_method_11_code
def y_MO_fill : MethodName := ⟨"SheetTreesModel", "fill", "()V"⟩
abbrev b_MO_wantAll : ByteArray := prog_9_method_12_code
def y_MO_wantAll : MethodName := ⟨"SheetTreesModel", "wantAll", "()V"⟩
abbrev b_MO_worth : ByteArray := prog_9_method_13_code
def y_MO_worth : MethodName := ⟨"SheetTreesModel", "worth", "(IIII)I"⟩
abbrev b_MO_wayOf : ByteArray := prog_9_method_14_code
def y_MO_wayOf : MethodName := ⟨"SheetTreesModel", "wayOf", "(I)I"⟩
abbrev b_MO_push : ByteArray := prog_9_method_15_code
def y_MO_push : MethodName := ⟨"SheetTreesModel", "push", "(IIIIIII)V"⟩
abbrev b_MO_walk : ByteArray := prog_9_method_16_code
def y_MO_walk : MethodName := ⟨"SheetTreesModel", "walk", "(II)V"⟩
abbrev b_MO_keepRest : ByteArray := prog_9_method_17_code
def y_MO_keepRest : MethodName := ⟨"SheetTreesModel", "keepRest", "(IIIII)V"⟩
abbrev b_MO_take : ByteArray := prog_9_method_18_code
def y_MO_take : MethodName := ⟨"SheetTreesModel", "take", "(IIIIII)V"⟩
abbrev b_MO_run : ByteArray := prog_9_method_19_code
def y_MO_run : MethodName := ⟨"SheetTreesModel", "run", "()I"⟩
abbrev b_MO_look : ByteArray := prog_9_method_20_code
def y_MO_look : MethodName := ⟨"SheetTreesModel", "look", "(III)V"⟩
abbrev b_MO_isAlike : ByteArray := prog_9_method_21_code
def y_MO_isAlike : MethodName := ⟨"SheetTreesModel", "isAlike", "(II)Z"⟩
abbrev b_MO_cut : ByteArray := prog_9_method_22_code
def y_MO_cut : MethodName := ⟨"SheetTreesModel", "cut", "(II)I"⟩
abbrev b_MO_taken : ByteArray := prog_9_method_23_code
def y_MO_taken : MethodName := ⟨"SheetTreesModel", "taken", "(III)I"⟩
abbrev b_MO_rest : ByteArray := prog_9_method_24_code
def y_MO_rest : MethodName := ⟨"SheetTreesModel", "rest", "(III)I"⟩
abbrev b_MO_left : ByteArray := prog_9_method_25_code
def y_MO_left : MethodName := ⟨"SheetTreesModel", "left", "(I)I"⟩
abbrev b_MO_all : ByteArray := prog_9_method_26_code
def y_MO_all : MethodName := ⟨"SheetTreesModel", "all", "(I)J"⟩
abbrev b_MO_bound : ByteArray := prog_9_method_27_code
def y_MO_bound : MethodName := ⟨"SheetTreesModel", "bound", "()I"⟩
abbrev b_CS_init : ByteArray := prog_2_method_1_code
def y_CS_init : MethodName := ⟨"SheetTrees$CutSheet", "<init>", "()V"⟩
abbrev b_CS_start : ByteArray := prog_2_method_2_code
def y_CS_start : MethodName := ⟨"SheetTrees$CutSheet", "start", "(ILSheetTrees$Sheet;LSheetTrees$Layout;)V"⟩
abbrev b_LY_init : ByteArray := prog_3_method_1_code
def y_LY_init : MethodName := ⟨"SheetTrees$Layout", "<init>", "(LSheetTrees$Tables;)V"⟩
abbrev b_LY_lay : ByteArray := prog_3_method_2_code
def y_LY_lay : MethodName := ⟨"SheetTrees$Layout", "lay", "(LSheetTrees$Sheet;I)V"⟩
abbrev b_LY_layTree : ByteArray := prog_3_method_3_code
def y_LY_layTree : MethodName := ⟨"SheetTrees$Layout", "layTree", "(IIIIII)V"⟩
abbrev b_LY_addPiece : ByteArray := prog_3_method_4_code
def y_LY_addPiece : MethodName := ⟨"SheetTrees$Layout", "addPiece", "(II)V"⟩
abbrev b_LY_areaToTake : ByteArray := prog_3_method_5_code
def y_LY_areaToTake : MethodName := ⟨"SheetTrees$Layout", "areaToTake", "([LSheetTrees$Part;)I"⟩
abbrev b_LY_partsUsed : ByteArray := prog_3_method_6_code
def y_LY_partsUsed : MethodName := ⟨"SheetTrees$Layout", "partsUsed", "()I"⟩
abbrev b_PA_init : ByteArray := prog_4_method_1_code
def y_PA_init : MethodName := ⟨"SheetTrees$Part", "<init>", "()V"⟩
abbrev b_PA_area : ByteArray := prog_4_method_2_code
def y_PA_area : MethodName := ⟨"SheetTrees$Part", "area", "()I"⟩
abbrev b_PI_of : ByteArray := prog_5_method_2_code
def y_PI_of : MethodName := ⟨"SheetTrees$Piece", "of", "(IIIII)I"⟩
abbrev b_PI_field : ByteArray := prog_5_method_3_code
def y_PI_field : MethodName := ⟨"SheetTrees$Piece", "field", "(II)I"⟩
abbrev b_PI_isAtLeast : ByteArray := prog_5_method_4_code
def y_PI_isAtLeast : MethodName := ⟨"SheetTrees$Piece", "isAtLeast", "(II)Z"⟩
abbrev b_SH_init : ByteArray := prog_6_method_1_code
def y_SH_init : MethodName := ⟨"SheetTrees$Sheet", "<init>", "()V"⟩
abbrev b_SH_area : ByteArray := prog_6_method_2_code
def y_SH_area : MethodName := ⟨"SheetTrees$Sheet", "area", "()I"⟩
abbrev b_TB_init : ByteArray := prog_7_method_1_code
def y_TB_init : MethodName := ⟨"SheetTrees$Tables", "<init>", "(I)V"⟩
abbrev b_TB_fill : ByteArray := prog_7_method_2_code
def y_TB_fill : MethodName := ⟨"SheetTrees$Tables", "fill", "([LSheetTrees$Part;II)V"⟩
abbrev b_TB_valueOf : ByteArray := prog_7_method_3_code
def y_TB_valueOf : MethodName := ⟨"SheetTrees$Tables", "valueOf", "(IIII)I"⟩
abbrev b_TB_scoreOf : ByteArray := prog_7_method_4_code
def y_TB_scoreOf : MethodName := ⟨"SheetTrees$Tables", "scoreOf", "(IIII)I"⟩
abbrev b_TB_choiceOf : ByteArray := prog_7_method_5_code
def y_TB_choiceOf : MethodName := ⟨"SheetTrees$Tables", "choiceOf", "(IIII)I"⟩
abbrev b_TB_placeOf : ByteArray := prog_7_method_6_code
def y_TB_placeOf : MethodName := ⟨"SheetTrees$Tables", "placeOf", "(IIII)I"⟩
abbrev b_TB_scoreAt : ByteArray := prog_7_method_7_code
def y_TB_scoreAt : MethodName := ⟨"SheetTrees$Tables", "scoreAt", "(I)I"⟩
abbrev b_TB_choiceAt : ByteArray := prog_7_method_8_code
def y_TB_choiceAt : MethodName := ⟨"SheetTrees$Tables", "choiceAt", "(I)I"⟩
abbrev b_TB_put : ByteArray := prog_7_method_9_code
def y_TB_put : MethodName := ⟨"SheetTrees$Tables", "put", "(III)V"⟩
abbrev b_TB_fillWithoutCuts : ByteArray := prog_7_method_10_code
def y_TB_fillWithoutCuts : MethodName := ⟨"SheetTrees$Tables", "fillWithoutCuts", "([LSheetTrees$Part;)V"⟩
abbrev b_TB_putPart : ByteArray := prog_7_method_11_code
def y_TB_putPart : MethodName := ⟨"SheetTrees$Tables", "putPart", "(III)V"⟩
abbrev b_TB_fillStage : ByteArray := prog_7_method_12_code
def y_TB_fillStage : MethodName := ⟨"SheetTrees$Tables", "fillStage", "(I)V"⟩
abbrev b_TB_choose : ByteArray := prog_7_method_13_code
def y_TB_choose : MethodName := ⟨"SheetTrees$Tables", "choose", "(IIII)V"⟩
abbrev b_LW_cell : ByteArray := method_2_code
def y_LW_cell : MethodName := ⟨"SheetTreesLaw", "cell", "([II)I"⟩
abbrev b_LW_sheet : ByteArray := method_3_code
def y_LW_sheet : MethodName := ⟨"SheetTreesLaw", "sheet", "(LSheetTrees;IIII[J)I"⟩
abbrev b_LW_part : ByteArray := method_4_code
def y_LW_part : MethodName := ⟨"SheetTreesLaw", "part", "(LSheetTrees;IIIZ[J)I"⟩
abbrev b_LW_count : ByteArray := method_5_code
def y_LW_count : MethodName := ⟨"SheetTreesLaw", "count", "(LSheetTrees;II[J)I"⟩
abbrev b_LW_worth : ByteArray := method_6_code
def y_LW_worth : MethodName := ⟨"SheetTreesLaw", "worth", "(LSheetTrees;IIII[J)I"⟩
abbrev b_LW_cut : ByteArray := method_7_code
def y_LW_cut : MethodName := ⟨"SheetTreesLaw", "cut", "(LSheetTrees;II[J)I"⟩
abbrev b_LW_taken : ByteArray := method_8_code
def y_LW_taken : MethodName := ⟨"SheetTreesLaw", "taken", "(LSheetTrees;III[J)I"⟩
abbrev b_LW_rest : ByteArray := method_9_code
def y_LW_rest : MethodName := ⟨"SheetTreesLaw", "rest", "(LSheetTrees;III[J)I"⟩
abbrev b_LW_left : ByteArray := method_10_code
def y_LW_left : MethodName := ⟨"SheetTreesLaw", "left", "(LSheetTrees;I[J)I"⟩
abbrev b_LW_all : ByteArray := method_11_code
def y_LW_all : MethodName := ⟨"SheetTreesLaw", "all", "(LSheetTrees;I[J)I"⟩
abbrev b_MA_max : ByteArray := prog_14_method_65_code
def y_MA_max : MethodName := ⟨"java/lang/Math", "max", "(II)I"⟩
abbrev b_MA_min : ByteArray := prog_14_method_69_code
def y_MA_min : MethodName := ⟨"java/lang/Math", "min", "(II)I"⟩
abbrev b_AR_fill : ByteArray := prog_18_method_103_code
def y_AR_fill : MethodName := ⟨"java/util/Arrays", "fill", "([II)V"⟩
end
section
/-! Ints by their values: iI z is the Java int of value z (mod 2^32). -/
def iI (z : Int) : Int32 := Int32.ofInt z
theorem iI_add (a b : Int) : iI a + iI b = iI (a + b) := (Int32.ofInt_add a b).symm
theorem iI_sub (a b : Int) : iI a - iI b = iI (a - b) := (Int32.ofInt_sub a b).symm
theorem iI_mul (a b : Int) : iI a * iI b = iI (a * b) := (Int32.ofInt_mul a b).symm
theorem iI_neg (a : Int) : -iI a = iI (-a) := (Int32.ofInt_neg a).symm
theorem iI_self (x : Int32) : iI x.toInt = x := Int32.ofInt_toInt x
theorem iI_toInt {z : Int} (h1 : -2147483648 ≤ z) (h2 : z < 2147483648) : (iI z).toInt = z := Int32.toInt_ofInt_of_le (by omega) (by omega)
theorem iI_lo (x : Int32) : -2147483648 ≤ x.toInt := by have := Int32.le_toInt x; omega
theorem iI_hi (x : Int32) : x.toInt < 2147483648 := by have := Int32.toInt_lt x; omega
theorem iI_lt {a b : Int} (a1 : -2147483648 ≤ a) (a2 : a < 2147483648) (b1 : -2147483648 ≤ b) (b2 : b < 2147483648) : iI a < iI b ↔ a < b := by
  rw [Int32.lt_iff_toInt_lt, iI_toInt a1 a2, iI_toInt b1 b2]
theorem iI_le {a b : Int} (a1 : -2147483648 ≤ a) (a2 : a < 2147483648) (b1 : -2147483648 ≤ b) (b2 : b < 2147483648) : iI a ≤ iI b ↔ a ≤ b := by
  rw [Int32.le_iff_toInt_le, iI_toInt a1 a2, iI_toInt b1 b2]
theorem iI_eq {a b : Int} (a1 : -2147483648 ≤ a) (a2 : a < 2147483648) (b1 : -2147483648 ≤ b) (b2 : b < 2147483648) : iI a = iI b ↔ a = b := by
  rw [← Int32.toInt_inj, iI_toInt a1 a2, iI_toInt b1 b2]
theorem iI_0 : iI 0 = 0 := by decide +kernel
theorem iI_nat (n : Nat) : iI (n : Int) = nI n := Int32.ofInt_eq_ofNat
theorem iI_cl {z : Int} (h0 : 0 ≤ z) (h2 : z < 2147483648) : (iI z).toNatClampNeg = z.toNat := by
  obtain ⟨n, rfl⟩ := Int.eq_ofNat_of_zero_le h0
  rw [iI_nat, nI_clamp (by omega)]
  rfl
theorem iI_in {z : Int} {N : Nat} (h0 : 0 ≤ z) (h : z < N) (hN : N < 2147483648) : vp_in (iI z) N := by
  obtain ⟨n, rfl⟩ := Int.eq_ofNat_of_zero_le h0
  rw [iI_nat]
  exact vp_in_nI (by omega) (by omega)
theorem iI_tdiv {a b : Int} (a1 : -2147483648 ≤ a) (a2 : a < 2147483648) (b1 : 0 < b) (b2 : b < 2147483648) : iI a / iI b = iI (a.tdiv b) :=
  (Int32.ofInt_tdiv (by rw [show Int32.minValue.toInt = -2147483648 from by decide +kernel]; omega) (by rw [show Int32.maxValue.toInt = 2147483647 from by decide +kernel]; omega) (by rw [show Int32.minValue.toInt = -2147483648 from by decide +kernel]; omega) (by rw [show Int32.maxValue.toInt = 2147483647 from by decide +kernel]; omega)).symm
theorem iI_ne0 {b : Int} (b1 : 0 < b) (b2 : b < 2147483648) : ¬ iI b = 0 := by
  rw [← iI_0, iI_eq (by omega) b2 (by omega) (by omega)]
  omega
end
