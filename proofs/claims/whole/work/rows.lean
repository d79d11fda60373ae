section
-- ===== PART A: goes FIRST, ahead of the names: the tables' words, and 'selects' of the private methods out of them =====
/-- a private method of a class that the tables say can be made, by its rows of tables_1 -/
def lw_okq (q : MethodName × Nat) : Prop := (q.1.cls ≠ "java/lang/invoke/MethodHandle" ∧ q.1.cls ≠ "java/lang/invoke/VarHandle") ∧ Cond.instantiable q.1.cls q.2 ∈ tables_1 ∧ Cond.privateMethod q.1 ∈ tables_1 ∧ Cond.instanceMethod q.1 ∈ tables_1
theorem lw_p0 : lw_okq (⟨"SheetTrees", "startRun", "()V"⟩, 15) := ⟨⟨by decide +kernel, by decide +kernel⟩, List.mem_of_getElem? (i := 18) (by decide +kernel), List.mem_of_getElem? (i := 266) (by decide +kernel), List.mem_of_getElem? (i := 267) (by decide +kernel)⟩
theorem lw_p1 : lw_okq (⟨"SheetTrees", "partsStillWanted", "()I"⟩, 15) := ⟨⟨by decide +kernel, by decide +kernel⟩, List.mem_of_getElem? (i := 18) (by decide +kernel), List.mem_of_getElem? (i := 270) (by decide +kernel), List.mem_of_getElem? (i := 271) (by decide +kernel)⟩
theorem lw_p2 : lw_okq (⟨"SheetTrees$Tables", "fill", "([LSheetTrees$Part;II)V"⟩, 5) := ⟨⟨by decide +kernel, by decide +kernel⟩, List.mem_of_getElem? (i := 41) (by decide +kernel), List.mem_of_getElem? (i := 274) (by decide +kernel), List.mem_of_getElem? (i := 275) (by decide +kernel)⟩
theorem lw_p3 : lw_okq (⟨"SheetTrees$Tables", "fillWithoutCuts", "([LSheetTrees$Part;)V"⟩, 5) := ⟨⟨by decide +kernel, by decide +kernel⟩, List.mem_of_getElem? (i := 41) (by decide +kernel), List.mem_of_getElem? (i := 278) (by decide +kernel), List.mem_of_getElem? (i := 279) (by decide +kernel)⟩
theorem lw_p4 : lw_okq (⟨"SheetTrees$Tables", "putPart", "(III)V"⟩, 5) := ⟨⟨by decide +kernel, by decide +kernel⟩, List.mem_of_getElem? (i := 41) (by decide +kernel), List.mem_of_getElem? (i := 285) (by decide +kernel), List.mem_of_getElem? (i := 286) (by decide +kernel)⟩
theorem lw_p5 : lw_okq (⟨"SheetTrees$Tables", "put", "(III)V"⟩, 5) := ⟨⟨by decide +kernel, by decide +kernel⟩, List.mem_of_getElem? (i := 41) (by decide +kernel), List.mem_of_getElem? (i := 292) (by decide +kernel), List.mem_of_getElem? (i := 293) (by decide +kernel)⟩
theorem lw_p6 : lw_okq (⟨"SheetTrees$Tables", "fillStage", "(I)V"⟩, 5) := ⟨⟨by decide +kernel, by decide +kernel⟩, List.mem_of_getElem? (i := 41) (by decide +kernel), List.mem_of_getElem? (i := 296) (by decide +kernel), List.mem_of_getElem? (i := 297) (by decide +kernel)⟩
theorem lw_p7 : lw_okq (⟨"SheetTrees$Tables", "choose", "(IIII)V"⟩, 5) := ⟨⟨by decide +kernel, by decide +kernel⟩, List.mem_of_getElem? (i := 41) (by decide +kernel), List.mem_of_getElem? (i := 300) (by decide +kernel), List.mem_of_getElem? (i := 301) (by decide +kernel)⟩
theorem lw_p8 : lw_okq (⟨"SheetTrees$Tables", "scoreAt", "(I)I"⟩, 5) := ⟨⟨by decide +kernel, by decide +kernel⟩, List.mem_of_getElem? (i := 41) (by decide +kernel), List.mem_of_getElem? (i := 304) (by decide +kernel), List.mem_of_getElem? (i := 305) (by decide +kernel)⟩
theorem lw_p9 : lw_okq (⟨"SheetTrees$Tables", "choiceAt", "(I)I"⟩, 5) := ⟨⟨by decide +kernel, by decide +kernel⟩, List.mem_of_getElem? (i := 41) (by decide +kernel), List.mem_of_getElem? (i := 308) (by decide +kernel), List.mem_of_getElem? (i := 309) (by decide +kernel)⟩
theorem lw_p10 : lw_okq (⟨"SheetTrees", "bestSheet", "()I"⟩, 15) := ⟨⟨by decide +kernel, by decide +kernel⟩, List.mem_of_getElem? (i := 18) (by decide +kernel), List.mem_of_getElem? (i := 313) (by decide +kernel), List.mem_of_getElem? (i := 314) (by decide +kernel)⟩
theorem lw_p11 : lw_okq (⟨"SheetTrees$Layout", "lay", "(LSheetTrees$Sheet;I)V"⟩, 7) := ⟨⟨by decide +kernel, by decide +kernel⟩, List.mem_of_getElem? (i := 66) (by decide +kernel), List.mem_of_getElem? (i := 317) (by decide +kernel), List.mem_of_getElem? (i := 318) (by decide +kernel)⟩
theorem lw_p12 : lw_okq (⟨"SheetTrees$Tables", "scoreOf", "(IIII)I"⟩, 5) := ⟨⟨by decide +kernel, by decide +kernel⟩, List.mem_of_getElem? (i := 41) (by decide +kernel), List.mem_of_getElem? (i := 322) (by decide +kernel), List.mem_of_getElem? (i := 323) (by decide +kernel)⟩
theorem lw_p13 : lw_okq (⟨"SheetTrees$Layout", "layTree", "(IIIIII)V"⟩, 7) := ⟨⟨by decide +kernel, by decide +kernel⟩, List.mem_of_getElem? (i := 66) (by decide +kernel), List.mem_of_getElem? (i := 326) (by decide +kernel), List.mem_of_getElem? (i := 327) (by decide +kernel)⟩
theorem lw_p14 : lw_okq (⟨"SheetTrees$Tables", "choiceOf", "(IIII)I"⟩, 5) := ⟨⟨by decide +kernel, by decide +kernel⟩, List.mem_of_getElem? (i := 41) (by decide +kernel), List.mem_of_getElem? (i := 330) (by decide +kernel), List.mem_of_getElem? (i := 331) (by decide +kernel)⟩
theorem lw_p15 : lw_okq (⟨"SheetTrees$Layout", "addPiece", "(II)V"⟩, 7) := ⟨⟨by decide +kernel, by decide +kernel⟩, List.mem_of_getElem? (i := 66) (by decide +kernel), List.mem_of_getElem? (i := 337) (by decide +kernel), List.mem_of_getElem? (i := 338) (by decide +kernel)⟩
def lw_privs_1 : List (MethodName × Nat) := [(⟨"SheetTrees", "startRun", "()V"⟩, 15), (⟨"SheetTrees", "partsStillWanted", "()I"⟩, 15), (⟨"SheetTrees$Tables", "fill", "([LSheetTrees$Part;II)V"⟩, 5), (⟨"SheetTrees$Tables", "fillWithoutCuts", "([LSheetTrees$Part;)V"⟩, 5), (⟨"SheetTrees$Tables", "putPart", "(III)V"⟩, 5), (⟨"SheetTrees$Tables", "put", "(III)V"⟩, 5), (⟨"SheetTrees$Tables", "fillStage", "(I)V"⟩, 5), (⟨"SheetTrees$Tables", "choose", "(IIII)V"⟩, 5), (⟨"SheetTrees$Tables", "scoreAt", "(I)I"⟩, 5), (⟨"SheetTrees$Tables", "choiceAt", "(I)I"⟩, 5), (⟨"SheetTrees", "bestSheet", "()I"⟩, 15), (⟨"SheetTrees$Layout", "lay", "(LSheetTrees$Sheet;I)V"⟩, 7), (⟨"SheetTrees$Tables", "scoreOf", "(IIII)I"⟩, 5), (⟨"SheetTrees$Layout", "layTree", "(IIIIII)V"⟩, 7), (⟨"SheetTrees$Tables", "choiceOf", "(IIII)I"⟩, 5), (⟨"SheetTrees$Layout", "addPiece", "(II)V"⟩, 7)]
theorem lw_r1 : ∀ q ∈ lw_privs_1, lw_okq q := List.forall_mem_cons.mpr ⟨lw_p0, List.forall_mem_cons.mpr ⟨lw_p1, List.forall_mem_cons.mpr ⟨lw_p2, List.forall_mem_cons.mpr ⟨lw_p3, List.forall_mem_cons.mpr ⟨lw_p4, List.forall_mem_cons.mpr ⟨lw_p5, List.forall_mem_cons.mpr ⟨lw_p6, List.forall_mem_cons.mpr ⟨lw_p7, List.forall_mem_cons.mpr ⟨lw_p8, List.forall_mem_cons.mpr ⟨lw_p9, List.forall_mem_cons.mpr ⟨lw_p10, List.forall_mem_cons.mpr ⟨lw_p11, List.forall_mem_cons.mpr ⟨lw_p12, List.forall_mem_cons.mpr ⟨lw_p13, List.forall_mem_cons.mpr ⟨lw_p14, List.forall_mem_cons.mpr ⟨lw_p15, fun _ h => absurd h List.not_mem_nil⟩⟩⟩⟩⟩⟩⟩⟩⟩⟩⟩⟩⟩⟩⟩⟩
theorem lw_p16 : lw_okq (⟨"SheetTrees$Layout", "areaToTake", "([LSheetTrees$Part;)I"⟩, 7) := ⟨⟨by decide +kernel, by decide +kernel⟩, List.mem_of_getElem? (i := 66) (by decide +kernel), List.mem_of_getElem? (i := 341) (by decide +kernel), List.mem_of_getElem? (i := 342) (by decide +kernel)⟩
theorem lw_p17 : lw_okq (⟨"SheetTrees$Part", "area", "()I"⟩, 5) := ⟨⟨by decide +kernel, by decide +kernel⟩, List.mem_of_getElem? (i := 127) (by decide +kernel), List.mem_of_getElem? (i := 346) (by decide +kernel), List.mem_of_getElem? (i := 347) (by decide +kernel)⟩
theorem lw_p18 : lw_okq (⟨"SheetTrees", "cutOneOf", "(I)V"⟩, 15) := ⟨⟨by decide +kernel, by decide +kernel⟩, List.mem_of_getElem? (i := 18) (by decide +kernel), List.mem_of_getElem? (i := 350) (by decide +kernel), List.mem_of_getElem? (i := 351) (by decide +kernel)⟩
theorem lw_p19 : lw_okq (⟨"SheetTrees$CutSheet", "start", "(ILSheetTrees$Sheet;LSheetTrees$Layout;)V"⟩, 13) := ⟨⟨by decide +kernel, by decide +kernel⟩, List.mem_of_getElem? (i := 157) (by decide +kernel), List.mem_of_getElem? (i := 354) (by decide +kernel), List.mem_of_getElem? (i := 355) (by decide +kernel)⟩
theorem lw_p20 : lw_okq (⟨"SheetTrees$Sheet", "area", "()I"⟩, 5) := ⟨⟨by decide +kernel, by decide +kernel⟩, List.mem_of_getElem? (i := 98) (by decide +kernel), List.mem_of_getElem? (i := 358) (by decide +kernel), List.mem_of_getElem? (i := 359) (by decide +kernel)⟩
theorem lw_p21 : lw_okq (⟨"SheetTrees$Layout", "partsUsed", "()I"⟩, 7) := ⟨⟨by decide +kernel, by decide +kernel⟩, List.mem_of_getElem? (i := 66) (by decide +kernel), List.mem_of_getElem? (i := 362) (by decide +kernel), List.mem_of_getElem? (i := 363) (by decide +kernel)⟩
theorem lw_p22 : lw_okq (⟨"SheetTrees", "takePieces", "(LSheetTrees$CutSheet;)V"⟩, 15) := ⟨⟨by decide +kernel, by decide +kernel⟩, List.mem_of_getElem? (i := 18) (by decide +kernel), List.mem_of_getElem? (i := 366) (by decide +kernel), List.mem_of_getElem? (i := 367) (by decide +kernel)⟩
theorem lw_p23 : lw_okq (⟨"SheetTrees", "keepRest", "(I)V"⟩, 15) := ⟨⟨by decide +kernel, by decide +kernel⟩, List.mem_of_getElem? (i := 18) (by decide +kernel), List.mem_of_getElem? (i := 373) (by decide +kernel), List.mem_of_getElem? (i := 374) (by decide +kernel)⟩
theorem lw_p24 : lw_okq (⟨"SheetTrees", "takePart", "(LSheetTrees$CutSheet;LSheetTrees$Part;I)V"⟩, 15) := ⟨⟨by decide +kernel, by decide +kernel⟩, List.mem_of_getElem? (i := 18) (by decide +kernel), List.mem_of_getElem? (i := 381) (by decide +kernel), List.mem_of_getElem? (i := 382) (by decide +kernel)⟩
theorem lw_p25 : lw_okq (⟨"SheetTrees", "firstAlike", "(LSheetTrees$CutSheet;)I"⟩, 15) := ⟨⟨by decide +kernel, by decide +kernel⟩, List.mem_of_getElem? (i := 18) (by decide +kernel), List.mem_of_getElem? (i := 386) (by decide +kernel), List.mem_of_getElem? (i := 387) (by decide +kernel)⟩
theorem lw_p26 : lw_okq (⟨"java/lang/Throwable", "fillInStackTrace", "(I)Ljava/lang/Throwable;"⟩, 6) := ⟨⟨by decide +kernel, by decide +kernel⟩, List.mem_of_getElem? (i := 451) (by decide +kernel), List.mem_of_getElem? (i := 449) (by decide +kernel), List.mem_of_getElem? (i := 450) (by decide +kernel)⟩
theorem lw_p27 : lw_okq (⟨"SheetTrees", "partAt", "(I)LSheetTrees$Part;"⟩, 15) := ⟨⟨by decide +kernel, by decide +kernel⟩, List.mem_of_getElem? (i := 18) (by decide +kernel), List.mem_of_getElem? (i := 516) (by decide +kernel), List.mem_of_getElem? (i := 517) (by decide +kernel)⟩
theorem lw_p28 : lw_okq (⟨"SheetTrees", "partsTold", "()I"⟩, 15) := ⟨⟨by decide +kernel, by decide +kernel⟩, List.mem_of_getElem? (i := 18) (by decide +kernel), List.mem_of_getElem? (i := 545) (by decide +kernel), List.mem_of_getElem? (i := 546) (by decide +kernel)⟩
theorem lw_p29 : lw_okq (⟨"SheetTrees$Tables", "valueOf", "(IIII)I"⟩, 5) := ⟨⟨by decide +kernel, by decide +kernel⟩, List.mem_of_getElem? (i := 41) (by decide +kernel), List.mem_of_getElem? (i := 549) (by decide +kernel), List.mem_of_getElem? (i := 550) (by decide +kernel)⟩
theorem lw_p30 : lw_okq (⟨"SheetTrees", "cutSheetAt", "(I)LSheetTrees$CutSheet;"⟩, 15) := ⟨⟨by decide +kernel, by decide +kernel⟩, List.mem_of_getElem? (i := 18) (by decide +kernel), List.mem_of_getElem? (i := 561) (by decide +kernel), List.mem_of_getElem? (i := 562) (by decide +kernel)⟩
theorem lw_p31 : lw_okq (⟨"SheetTrees", "needRun", "()V"⟩, 15) := ⟨⟨by decide +kernel, by decide +kernel⟩, List.mem_of_getElem? (i := 18) (by decide +kernel), List.mem_of_getElem? (i := 565) (by decide +kernel), List.mem_of_getElem? (i := 566) (by decide +kernel)⟩
def lw_privs_2 : List (MethodName × Nat) := [(⟨"SheetTrees$Layout", "areaToTake", "([LSheetTrees$Part;)I"⟩, 7), (⟨"SheetTrees$Part", "area", "()I"⟩, 5), (⟨"SheetTrees", "cutOneOf", "(I)V"⟩, 15), (⟨"SheetTrees$CutSheet", "start", "(ILSheetTrees$Sheet;LSheetTrees$Layout;)V"⟩, 13), (⟨"SheetTrees$Sheet", "area", "()I"⟩, 5), (⟨"SheetTrees$Layout", "partsUsed", "()I"⟩, 7), (⟨"SheetTrees", "takePieces", "(LSheetTrees$CutSheet;)V"⟩, 15), (⟨"SheetTrees", "keepRest", "(I)V"⟩, 15), (⟨"SheetTrees", "takePart", "(LSheetTrees$CutSheet;LSheetTrees$Part;I)V"⟩, 15), (⟨"SheetTrees", "firstAlike", "(LSheetTrees$CutSheet;)I"⟩, 15), (⟨"java/lang/Throwable", "fillInStackTrace", "(I)Ljava/lang/Throwable;"⟩, 6), (⟨"SheetTrees", "partAt", "(I)LSheetTrees$Part;"⟩, 15), (⟨"SheetTrees", "partsTold", "()I"⟩, 15), (⟨"SheetTrees$Tables", "valueOf", "(IIII)I"⟩, 5), (⟨"SheetTrees", "cutSheetAt", "(I)LSheetTrees$CutSheet;"⟩, 15), (⟨"SheetTrees", "needRun", "()V"⟩, 15)]
theorem lw_r2 : ∀ q ∈ lw_privs_2, lw_okq q := List.forall_mem_cons.mpr ⟨lw_p16, List.forall_mem_cons.mpr ⟨lw_p17, List.forall_mem_cons.mpr ⟨lw_p18, List.forall_mem_cons.mpr ⟨lw_p19, List.forall_mem_cons.mpr ⟨lw_p20, List.forall_mem_cons.mpr ⟨lw_p21, List.forall_mem_cons.mpr ⟨lw_p22, List.forall_mem_cons.mpr ⟨lw_p23, List.forall_mem_cons.mpr ⟨lw_p24, List.forall_mem_cons.mpr ⟨lw_p25, List.forall_mem_cons.mpr ⟨lw_p26, List.forall_mem_cons.mpr ⟨lw_p27, List.forall_mem_cons.mpr ⟨lw_p28, List.forall_mem_cons.mpr ⟨lw_p29, List.forall_mem_cons.mpr ⟨lw_p30, List.forall_mem_cons.mpr ⟨lw_p31, fun _ h => absurd h List.not_mem_nil⟩⟩⟩⟩⟩⟩⟩⟩⟩⟩⟩⟩⟩⟩⟩⟩
theorem lw_p32 : lw_okq (⟨"SheetTreesModel", "wantAll", "()V"⟩, 34) := ⟨⟨by decide +kernel, by decide +kernel⟩, List.mem_of_getElem? (i := 608) (by decide +kernel), List.mem_of_getElem? (i := 741) (by decide +kernel), List.mem_of_getElem? (i := 742) (by decide +kernel)⟩
theorem lw_p33 : lw_okq (⟨"SheetTreesModel", "fill", "()V"⟩, 34) := ⟨⟨by decide +kernel, by decide +kernel⟩, List.mem_of_getElem? (i := 608) (by decide +kernel), List.mem_of_getElem? (i := 745) (by decide +kernel), List.mem_of_getElem? (i := 746) (by decide +kernel)⟩
theorem lw_p34 : lw_okq (⟨"SheetTreesModel", "fillOne", "(IIII)V"⟩, 34) := ⟨⟨by decide +kernel, by decide +kernel⟩, List.mem_of_getElem? (i := 608) (by decide +kernel), List.mem_of_getElem? (i := 749) (by decide +kernel), List.mem_of_getElem? (i := 750) (by decide +kernel)⟩
theorem lw_p35 : lw_okq (⟨"SheetTreesModel", "isJust", "(III)Z"⟩, 34) := ⟨⟨by decide +kernel, by decide +kernel⟩, List.mem_of_getElem? (i := 608) (by decide +kernel), List.mem_of_getElem? (i := 756) (by decide +kernel), List.mem_of_getElem? (i := 757) (by decide +kernel)⟩
theorem lw_p36 : lw_okq (⟨"SheetTreesModel", "better", "(IIII)V"⟩, 34) := ⟨⟨by decide +kernel, by decide +kernel⟩, List.mem_of_getElem? (i := 608) (by decide +kernel), List.mem_of_getElem? (i := 760) (by decide +kernel), List.mem_of_getElem? (i := 761) (by decide +kernel)⟩
theorem lw_p37 : lw_okq (⟨"SheetTreesModel", "walk", "(II)V"⟩, 34) := ⟨⟨by decide +kernel, by decide +kernel⟩, List.mem_of_getElem? (i := 608) (by decide +kernel), List.mem_of_getElem? (i := 768) (by decide +kernel), List.mem_of_getElem? (i := 769) (by decide +kernel)⟩
theorem lw_p38 : lw_okq (⟨"SheetTreesModel", "wayOf", "(I)I"⟩, 34) := ⟨⟨by decide +kernel, by decide +kernel⟩, List.mem_of_getElem? (i := 608) (by decide +kernel), List.mem_of_getElem? (i := 772) (by decide +kernel), List.mem_of_getElem? (i := 773) (by decide +kernel)⟩
theorem lw_p39 : lw_okq (⟨"SheetTreesModel", "push", "(IIIIIII)V"⟩, 34) := ⟨⟨by decide +kernel, by decide +kernel⟩, List.mem_of_getElem? (i := 608) (by decide +kernel), List.mem_of_getElem? (i := 776) (by decide +kernel), List.mem_of_getElem? (i := 777) (by decide +kernel)⟩
theorem lw_p40 : lw_okq (⟨"SheetTreesModel", "keepRest", "(IIIII)V"⟩, 34) := ⟨⟨by decide +kernel, by decide +kernel⟩, List.mem_of_getElem? (i := 608) (by decide +kernel), List.mem_of_getElem? (i := 780) (by decide +kernel), List.mem_of_getElem? (i := 781) (by decide +kernel)⟩
theorem lw_p41 : lw_okq (⟨"SheetTreesModel", "take", "(IIIIII)V"⟩, 34) := ⟨⟨by decide +kernel, by decide +kernel⟩, List.mem_of_getElem? (i := 608) (by decide +kernel), List.mem_of_getElem? (i := 784) (by decide +kernel), List.mem_of_getElem? (i := 785) (by decide +kernel)⟩
theorem lw_p42 : lw_okq (⟨"SheetTreesModel", "look", "(III)V"⟩, 34) := ⟨⟨by decide +kernel, by decide +kernel⟩, List.mem_of_getElem? (i := 608) (by decide +kernel), List.mem_of_getElem? (i := 792) (by decide +kernel), List.mem_of_getElem? (i := 793) (by decide +kernel)⟩
theorem lw_p43 : lw_okq (⟨"SheetTreesModel", "isAlike", "(II)Z"⟩, 34) := ⟨⟨by decide +kernel, by decide +kernel⟩, List.mem_of_getElem? (i := 608) (by decide +kernel), List.mem_of_getElem? (i := 796) (by decide +kernel), List.mem_of_getElem? (i := 797) (by decide +kernel)⟩
def lw_privs_3 : List (MethodName × Nat) := [(⟨"SheetTreesModel", "wantAll", "()V"⟩, 34), (⟨"SheetTreesModel", "fill", "()V"⟩, 34), (⟨"SheetTreesModel", "fillOne", "(IIII)V"⟩, 34), (⟨"SheetTreesModel", "isJust", "(III)Z"⟩, 34), (⟨"SheetTreesModel", "better", "(IIII)V"⟩, 34), (⟨"SheetTreesModel", "walk", "(II)V"⟩, 34), (⟨"SheetTreesModel", "wayOf", "(I)I"⟩, 34), (⟨"SheetTreesModel", "push", "(IIIIIII)V"⟩, 34), (⟨"SheetTreesModel", "keepRest", "(IIIII)V"⟩, 34), (⟨"SheetTreesModel", "take", "(IIIIII)V"⟩, 34), (⟨"SheetTreesModel", "look", "(III)V"⟩, 34), (⟨"SheetTreesModel", "isAlike", "(II)Z"⟩, 34)]
theorem lw_r3 : ∀ q ∈ lw_privs_3, lw_okq q := List.forall_mem_cons.mpr ⟨lw_p32, List.forall_mem_cons.mpr ⟨lw_p33, List.forall_mem_cons.mpr ⟨lw_p34, List.forall_mem_cons.mpr ⟨lw_p35, List.forall_mem_cons.mpr ⟨lw_p36, List.forall_mem_cons.mpr ⟨lw_p37, List.forall_mem_cons.mpr ⟨lw_p38, List.forall_mem_cons.mpr ⟨lw_p39, List.forall_mem_cons.mpr ⟨lw_p40, List.forall_mem_cons.mpr ⟨lw_p41, List.forall_mem_cons.mpr ⟨lw_p42, List.forall_mem_cons.mpr ⟨lw_p43, fun _ h => absurd h List.not_mem_nil⟩⟩⟩⟩⟩⟩⟩⟩⟩⟩⟩⟩
def lw_privs : List (MethodName × Nat) := lw_privs_1 ++ (lw_privs_2 ++ (lw_privs_3))
def lw_tbl : List Cond := k2_sels lw_privs ++ tables_1
theorem lw_privs_ok : ∀ q ∈ lw_privs, lw_okq q := by
  show ∀ q ∈ lw_privs_1 ++ (lw_privs_2 ++ (lw_privs_3)), lw_okq q
  exact List.forall_mem_append.mpr ⟨lw_r1, List.forall_mem_append.mpr ⟨lw_r2, lw_r3⟩⟩

/-- what stays true of the tables while they warm -/
def tb_keep : Cond → Bool
  | .fieldLinkNest .. | .methodLinkNest .. | .castable .. | .declares .. | .arrayOver (.object _) => true
  | w => goodWord w
def tb_l : List Cond := lw_tbl.filter tb_keep
theorem tb_at {w : Cond} (i : Nat) (h : lw_tbl[i]? = some w) (hk : tb_keep w = true) : w ∈ tb_l := List.mem_filter.mpr ⟨List.mem_of_getElem? h, hk⟩
def tb_ok (U : State) : Prop := ∀ w ∈ tb_l, ∀ a : Array Value, w.before a U = true
theorem tb_moved {s U : State} (hW : s.WarmedH U.vm) (h : tb_ok s) : tb_ok U := fun w hw a => by
  have hk := (List.mem_filter.mp hw).2
  have h0 := h w hw
  cases w with
  | fieldLinkNest x1 x2 x3 x4 x5 x6 => exact va_Nw.use rfl (va_Nw.warmF hW (va_Nw.of rfl (h0 #[])))
  | methodLinkNest x1 x2 x3 x4 => exact va_Nw.use rfl (va_Nw.warmM hW (va_Nw.of rfl (h0 #[])))
  | castable x1 x2 => exact va_Nw.use rfl (va_Nw.warmC hW (va_Nw.of rfl (h0 #[])))
  | declares x1 => exact va_Nw.use rfl (va_Nw.warmD hW (va_Nw.of rfl (h0 #[])))
  | arrayOver ty =>
    cases ty with
    | object C => exact va_AO.use (va_AO.moved hW.alike (va_AO.of (h0 #[])))
    | _ => exact Bool.noConfusion (show false = true from hk)
  | _ => exact word_at hW (good_of_word hk) (h0 a)
theorem tb_same {s U : State} (hv : U.vm = s.vm) (h : tb_ok s) : tb_ok U := tb_moved (s := s) (by rw [hv]; exact State.WarmedH.refl s) h
def R_CS : String := "SheetTrees$CutSheet"
def F_CS : u_T := fun k => match k with
  | 0 => ("SheetTrees$CutSheet", "sheet", "I", false)
  | 1 => ("SheetTrees$CutSheet", "cents", "I", false)
  | 2 => ("SheetTrees$CutSheet", "area", "I", false)
  | 3 => ("SheetTrees$CutSheet", "way", "I", false)
  | 4 => ("SheetTrees$CutSheet", "cuts", "I", false)
  | 5 => ("SheetTrees$CutSheet", "minutes", "I", false)
  | 6 => ("SheetTrees$CutSheet", "partsUsed", "I", false)
  | 7 => ("SheetTrees$CutSheet", "takenFrom", "I", false)
  | 8 => ("SheetTrees$CutSheet", "takenCount", "I", false)
  | 9 => ("SheetTrees$CutSheet", "takenArea", "I", false)
  | 10 => ("SheetTrees$CutSheet", "restFrom", "I", false)
  | 11 => ("SheetTrees$CutSheet", "restCount", "I", false)
  | _ => ("SheetTrees$CutSheet", "firstAlike", "I", false)
def t_CS : Nat → FieldType := fun k => match k with
  | 0 => .int
  | 1 => .int
  | 2 => .int
  | 3 => .int
  | 4 => .int
  | 5 => .int
  | 6 => .int
  | 7 => .int
  | 8 => .int
  | 9 => .int
  | 10 => .int
  | 11 => .int
  | _ => .int
theorem n_CS : ∀ a, a < 13 → ∀ b, b < 13 → a ≠ b → (F_CS a).2.1 ≠ (F_CS b).2.1 := by decide +kernel
theorem t_CS_ok : ∀ k, k < 13 → parseFieldDescriptor (F_CS k).2.2.1 = some (t_CS k) := by decide +kernel
def R_LY : String := "SheetTrees$Layout"
def F_LY : u_T := fun k => match k with
  | 0 => ("SheetTrees$Layout", "tables", "LSheetTrees$Tables;", true)
  | 1 => ("SheetTrees$Layout", "pieces", "[I", true)
  | 2 => ("SheetTrees$Layout", "copies", "[I", true)
  | 3 => ("SheetTrees$Layout", "pieceCount", "I", false)
  | 4 => ("SheetTrees$Layout", "way", "I", false)
  | 5 => ("SheetTrees$Layout", "cuts", "I", false)
  | _ => ("SheetTrees$Layout", "minutes", "I", false)
def t_LY : Nat → FieldType := fun k => match k with
  | 0 => .object "SheetTrees$Tables"
  | 1 => .array .int
  | 2 => .array .int
  | 3 => .int
  | 4 => .int
  | 5 => .int
  | _ => .int
theorem n_LY : ∀ a, a < 7 → ∀ b, b < 7 → a ≠ b → (F_LY a).2.1 ≠ (F_LY b).2.1 := by decide +kernel
theorem t_LY_ok : ∀ k, k < 7 → parseFieldDescriptor (F_LY k).2.2.1 = some (t_LY k) := by decide +kernel
def R_PA : String := "SheetTrees$Part"
def F_PA : u_T := fun k => match k with
  | 0 => ("SheetTrees$Part", "width", "I", false)
  | 1 => ("SheetTrees$Part", "height", "I", false)
  | 2 => ("SheetTrees$Part", "turns", "Z", false)
  | 3 => ("SheetTrees$Part", "count", "I", false)
  | _ => ("SheetTrees$Part", "left", "I", false)
def t_PA : Nat → FieldType := fun k => match k with
  | 0 => .int
  | 1 => .int
  | 2 => .boolean
  | 3 => .int
  | _ => .int
theorem n_PA : ∀ a, a < 5 → ∀ b, b < 5 → a ≠ b → (F_PA a).2.1 ≠ (F_PA b).2.1 := by decide +kernel
theorem t_PA_ok : ∀ k, k < 5 → parseFieldDescriptor (F_PA k).2.2.1 = some (t_PA k) := by decide +kernel
def R_SH : String := "SheetTrees$Sheet"
def F_SH : u_T := fun k => match k with
  | 0 => ("SheetTrees$Sheet", "width", "I", false)
  | 1 => ("SheetTrees$Sheet", "height", "I", false)
  | 2 => ("SheetTrees$Sheet", "cents", "I", false)
  | 3 => ("SheetTrees$Sheet", "stock", "I", false)
  | _ => ("SheetTrees$Sheet", "unused", "I", false)
def t_SH : Nat → FieldType := fun k => match k with
  | 0 => .int
  | 1 => .int
  | 2 => .int
  | 3 => .int
  | _ => .int
theorem n_SH : ∀ a, a < 5 → ∀ b, b < 5 → a ≠ b → (F_SH a).2.1 ≠ (F_SH b).2.1 := by decide +kernel
theorem t_SH_ok : ∀ k, k < 5 → parseFieldDescriptor (F_SH k).2.2.1 = some (t_SH k) := by decide +kernel
def R_TB : String := "SheetTrees$Tables"
def F_TB : u_T := fun k => match k with
  | 0 => ("SheetTrees$Tables", "kerf", "I", true)
  | 1 => ("SheetTrees$Tables", "scores", "[I", true)
  | 2 => ("SheetTrees$Tables", "choices", "[I", true)
  | 3 => ("SheetTrees$Tables", "wanted", "I", false)
  | _ => ("SheetTrees$Tables", "stagesFilled", "I", false)
def t_TB : Nat → FieldType := fun k => match k with
  | 0 => .int
  | 1 => .array .int
  | 2 => .array .int
  | 3 => .int
  | _ => .int
theorem n_TB : ∀ a, a < 5 → ∀ b, b < 5 → a ≠ b → (F_TB a).2.1 ≠ (F_TB b).2.1 := by decide +kernel
theorem t_TB_ok : ∀ k, k < 5 → parseFieldDescriptor (F_TB k).2.2.1 = some (t_TB k) := by decide +kernel
def R_ST : String := "SheetTrees"
def F_ST : u_T := fun k => match k with
  | 0 => ("SheetTrees", "stages", "I", true)
  | 1 => ("SheetTrees", "least", "I", true)
  | 2 => ("SheetTrees", "sheets", "[LSheetTrees$Sheet;", true)
  | 3 => ("SheetTrees", "parts", "[LSheetTrees$Part;", true)
  | 4 => ("SheetTrees", "cutSheets", "[LSheetTrees$CutSheet;", true)
  | 5 => ("SheetTrees", "takenPieces", "[I", true)
  | 6 => ("SheetTrees", "restPieces", "[I", true)
  | 7 => ("SheetTrees", "tables", "LSheetTrees$Tables;", true)
  | 8 => ("SheetTrees", "layout", "LSheetTrees$Layout;", true)
  | 9 => ("SheetTrees", "sheetCount", "I", false)
  | 10 => ("SheetTrees", "partCount", "I", false)
  | 11 => ("SheetTrees", "cutCount", "I", false)
  | 12 => ("SheetTrees", "takenCount", "I", false)
  | 13 => ("SheetTrees", "restCount", "I", false)
  | _ => ("SheetTrees", "ran", "Z", false)
def t_ST : Nat → FieldType := fun k => match k with
  | 0 => .int
  | 1 => .int
  | 2 => .array (.object "SheetTrees$Sheet")
  | 3 => .array (.object "SheetTrees$Part")
  | 4 => .array (.object "SheetTrees$CutSheet")
  | 5 => .array .int
  | 6 => .array .int
  | 7 => .object "SheetTrees$Tables"
  | 8 => .object "SheetTrees$Layout"
  | 9 => .int
  | 10 => .int
  | 11 => .int
  | 12 => .int
  | 13 => .int
  | _ => .boolean
theorem n_ST : ∀ a, a < 15 → ∀ b, b < 15 → a ≠ b → (F_ST a).2.1 ≠ (F_ST b).2.1 := by decide +kernel
theorem t_ST_ok : ∀ k, k < 15 → parseFieldDescriptor (F_ST k).2.2.1 = some (t_ST k) := by decide +kernel
def R_MO : String := "SheetTreesModel"
def F_MO : u_T := fun k => match k with
  | 0 => ("SheetTreesModel", "code", "I", false)
  | 1 => ("SheetTreesModel", "kerf", "I", true)
  | 2 => ("SheetTreesModel", "stages", "I", true)
  | 3 => ("SheetTreesModel", "least", "I", true)
  | 4 => ("SheetTreesModel", "sheets", "I", false)
  | 5 => ("SheetTreesModel", "sheetWidth", "[I", true)
  | 6 => ("SheetTreesModel", "sheetHeight", "[I", true)
  | 7 => ("SheetTreesModel", "cents", "[I", true)
  | 8 => ("SheetTreesModel", "stock", "[I", true)
  | 9 => ("SheetTreesModel", "parts", "I", false)
  | 10 => ("SheetTreesModel", "partWidth", "[I", true)
  | 11 => ("SheetTreesModel", "partHeight", "[I", true)
  | 12 => ("SheetTreesModel", "counts", "[I", true)
  | 13 => ("SheetTreesModel", "turns", "[Z", true)
  | 14 => ("SheetTreesModel", "wanted", "[I", true)
  | 15 => ("SheetTreesModel", "inStock", "[I", true)
  | 16 => ("SheetTreesModel", "still", "[I", true)
  | 17 => ("SheetTreesModel", "values", "[I", true)
  | 18 => ("SheetTreesModel", "cuts", "[I", true)
  | 19 => ("SheetTreesModel", "choices", "[I", true)
  | 20 => ("SheetTreesModel", "waiting", "[I", true)
  | 21 => ("SheetTreesModel", "ran", "Z", false)
  | 22 => ("SheetTreesModel", "done", "I", false)
  | 23 => ("SheetTreesModel", "ofSheet", "[I", true)
  | 24 => ("SheetTreesModel", "firstWay", "[I", true)
  | 25 => ("SheetTreesModel", "cutCount", "[I", true)
  | 26 => ("SheetTreesModel", "minutes", "[I", true)
  | 27 => ("SheetTreesModel", "takenCount", "[I", true)
  | 28 => ("SheetTreesModel", "takenArea", "[I", true)
  | 29 => ("SheetTreesModel", "restCount", "[I", true)
  | 30 => ("SheetTreesModel", "nodeCount", "[I", true)
  | 31 => ("SheetTreesModel", "nodes", "[I", true)
  | 32 => ("SheetTreesModel", "takens", "[I", true)
  | _ => ("SheetTreesModel", "rests", "[I", true)
def t_MO : Nat → FieldType := fun k => match k with
  | 0 => .int
  | 1 => .int
  | 2 => .int
  | 3 => .int
  | 4 => .int
  | 5 => .array .int
  | 6 => .array .int
  | 7 => .array .int
  | 8 => .array .int
  | 9 => .int
  | 10 => .array .int
  | 11 => .array .int
  | 12 => .array .int
  | 13 => .array .boolean
  | 14 => .array .int
  | 15 => .array .int
  | 16 => .array .int
  | 17 => .array .int
  | 18 => .array .int
  | 19 => .array .int
  | 20 => .array .int
  | 21 => .boolean
  | 22 => .int
  | 23 => .array .int
  | 24 => .array .int
  | 25 => .array .int
  | 26 => .array .int
  | 27 => .array .int
  | 28 => .array .int
  | 29 => .array .int
  | 30 => .array .int
  | 31 => .array .int
  | 32 => .array .int
  | _ => .array .int
theorem n_MO : ∀ a, a < 34 → ∀ b, b < 34 → a ≠ b → (F_MO a).2.1 ≠ (F_MO b).2.1 := by decide +kernel
theorem t_MO_ok : ∀ k, k < 34 → parseFieldDescriptor (F_MO k).2.2.1 = some (t_MO k) := by decide +kernel
def R_LW : String := "SheetTreesLaw"
def R_PI : String := "SheetTrees$Piece"
def R_AR : String := "java/util/Arrays"
abbrev classes : List vw_C := [(R_CS, F_CS, 13), (R_LY, F_LY, 7), (R_PA, F_PA, 5), (R_SH, F_SH, 5), (R_TB, F_TB, 5), (R_ST, F_ST, 15), (R_MO, F_MO, 34)]
set_option maxRecDepth 100000 in
theorem i_CS : ∀ w ∈ u_ws R_CS F_CS 13, w ∈ tb_l := by
  intro w hw
  obtain ⟨k, hk, rfl⟩ := List.mem_map.mp hw
  have hk := List.mem_range.mp hk
  rcases (show k = 0 ∨ k = 1 ∨ k = 2 ∨ k = 3 ∨ k = 4 ∨ k = 5 ∨ k = 6 ∨ k = 7 ∨ k = 8 ∨ k = 9 ∨ k = 10 ∨ k = 11 ∨ k = 12 by omega) with rfl | rfl | rfl | rfl | rfl | rfl | rfl | rfl | rfl | rfl | rfl | rfl | rfl
  · exact tb_at 232 rfl rfl
  · exact tb_at 234 rfl rfl
  · exact tb_at 236 rfl rfl
  · exact tb_at 238 rfl rfl
  · exact tb_at 240 rfl rfl
  · exact tb_at 242 rfl rfl
  · exact tb_at 244 rfl rfl
  · exact tb_at 246 rfl rfl
  · exact tb_at 248 rfl rfl
  · exact tb_at 250 rfl rfl
  · exact tb_at 252 rfl rfl
  · exact tb_at 254 rfl rfl
  · exact tb_at 256 rfl rfl
set_option maxRecDepth 100000 in
theorem i_LY : ∀ w ∈ u_ws R_LY F_LY 7, w ∈ tb_l := by
  intro w hw
  obtain ⟨k, hk, rfl⟩ := List.mem_map.mp hw
  have hk := List.mem_range.mp hk
  rcases (show k = 0 ∨ k = 1 ∨ k = 2 ∨ k = 3 ∨ k = 4 ∨ k = 5 ∨ k = 6 by omega) with rfl | rfl | rfl | rfl | rfl | rfl | rfl
  · exact tb_at 127 rfl rfl
  · exact tb_at 129 rfl rfl
  · exact tb_at 131 rfl rfl
  · exact tb_at 133 rfl rfl
  · exact tb_at 135 rfl rfl
  · exact tb_at 137 rfl rfl
  · exact tb_at 139 rfl rfl
set_option maxRecDepth 100000 in
theorem i_PA : ∀ w ∈ u_ws R_PA F_PA 5, w ∈ tb_l := by
  intro w hw
  obtain ⟨k, hk, rfl⟩ := List.mem_map.mp hw
  have hk := List.mem_range.mp hk
  rcases (show k = 0 ∨ k = 1 ∨ k = 2 ∨ k = 3 ∨ k = 4 by omega) with rfl | rfl | rfl | rfl | rfl
  · exact tb_at 190 rfl rfl
  · exact tb_at 192 rfl rfl
  · exact tb_at 194 rfl rfl
  · exact tb_at 196 rfl rfl
  · exact tb_at 198 rfl rfl
set_option maxRecDepth 100000 in
theorem i_SH : ∀ w ∈ u_ws R_SH F_SH 5, w ∈ tb_l := by
  intro w hw
  obtain ⟨k, hk, rfl⟩ := List.mem_map.mp hw
  have hk := List.mem_range.mp hk
  rcases (show k = 0 ∨ k = 1 ∨ k = 2 ∨ k = 3 ∨ k = 4 by omega) with rfl | rfl | rfl | rfl | rfl
  · exact tb_at 160 rfl rfl
  · exact tb_at 162 rfl rfl
  · exact tb_at 164 rfl rfl
  · exact tb_at 166 rfl rfl
  · exact tb_at 168 rfl rfl
set_option maxRecDepth 100000 in
theorem i_TB : ∀ w ∈ u_ws R_TB F_TB 5, w ∈ tb_l := by
  intro w hw
  obtain ⟨k, hk, rfl⟩ := List.mem_map.mp hw
  have hk := List.mem_range.mp hk
  rcases (show k = 0 ∨ k = 1 ∨ k = 2 ∨ k = 3 ∨ k = 4 by omega) with rfl | rfl | rfl | rfl | rfl
  · exact tb_at 97 rfl rfl
  · exact tb_at 99 rfl rfl
  · exact tb_at 101 rfl rfl
  · exact tb_at 103 rfl rfl
  · exact tb_at 105 rfl rfl
set_option maxRecDepth 100000 in
theorem i_ST : ∀ w ∈ u_ws R_ST F_ST 15, w ∈ tb_l := by
  intro w hw
  obtain ⟨k, hk, rfl⟩ := List.mem_map.mp hw
  have hk := List.mem_range.mp hk
  rcases (show k = 0 ∨ k = 1 ∨ k = 2 ∨ k = 3 ∨ k = 4 ∨ k = 5 ∨ k = 6 ∨ k = 7 ∨ k = 8 ∨ k = 9 ∨ k = 10 ∨ k = 11 ∨ k = 12 ∨ k = 13 ∨ k = 14 by omega) with rfl | rfl | rfl | rfl | rfl | rfl | rfl | rfl | rfl | rfl | rfl | rfl | rfl | rfl | rfl
  · exact tb_at 274 rfl rfl
  · exact tb_at 276 rfl rfl
  · exact tb_at 278 rfl rfl
  · exact tb_at 280 rfl rfl
  · exact tb_at 282 rfl rfl
  · exact tb_at 284 rfl rfl
  · exact tb_at 286 rfl rfl
  · exact tb_at 288 rfl rfl
  · exact tb_at 290 rfl rfl
  · exact tb_at 292 rfl rfl
  · exact tb_at 294 rfl rfl
  · exact tb_at 296 rfl rfl
  · exact tb_at 298 rfl rfl
  · exact tb_at 300 rfl rfl
  · exact tb_at 302 rfl rfl
set_option maxRecDepth 100000 in
theorem i_MO : ∀ w ∈ u_ws R_MO F_MO 34, w ∈ tb_l := by
  intro w hw
  obtain ⟨k, hk, rfl⟩ := List.mem_map.mp hw
  have hk := List.mem_range.mp hk
  rcases (show k = 0 ∨ k = 1 ∨ k = 2 ∨ k = 3 ∨ k = 4 ∨ k = 5 ∨ k = 6 ∨ k = 7 ∨ k = 8 ∨ k = 9 ∨ k = 10 ∨ k = 11 ∨ k = 12 ∨ k = 13 ∨ k = 14 ∨ k = 15 ∨ k = 16 ∨ k = 17 ∨ k = 18 ∨ k = 19 ∨ k = 20 ∨ k = 21 ∨ k = 22 ∨ k = 23 ∨ k = 24 ∨ k = 25 ∨ k = 26 ∨ k = 27 ∨ k = 28 ∨ k = 29 ∨ k = 30 ∨ k = 31 ∨ k = 32 ∨ k = 33 by omega) with rfl | rfl | rfl | rfl | rfl | rfl | rfl | rfl | rfl | rfl | rfl | rfl | rfl | rfl | rfl | rfl | rfl | rfl | rfl | rfl | rfl | rfl | rfl | rfl | rfl | rfl | rfl | rfl | rfl | rfl | rfl | rfl | rfl | rfl
  · exact tb_at 691 rfl rfl
  · exact tb_at 693 rfl rfl
  · exact tb_at 695 rfl rfl
  · exact tb_at 697 rfl rfl
  · exact tb_at 699 rfl rfl
  · exact tb_at 701 rfl rfl
  · exact tb_at 703 rfl rfl
  · exact tb_at 705 rfl rfl
  · exact tb_at 707 rfl rfl
  · exact tb_at 709 rfl rfl
  · exact tb_at 711 rfl rfl
  · exact tb_at 713 rfl rfl
  · exact tb_at 715 rfl rfl
  · exact tb_at 717 rfl rfl
  · exact tb_at 719 rfl rfl
  · exact tb_at 721 rfl rfl
  · exact tb_at 723 rfl rfl
  · exact tb_at 725 rfl rfl
  · exact tb_at 727 rfl rfl
  · exact tb_at 729 rfl rfl
  · exact tb_at 731 rfl rfl
  · exact tb_at 733 rfl rfl
  · exact tb_at 735 rfl rfl
  · exact tb_at 737 rfl rfl
  · exact tb_at 739 rfl rfl
  · exact tb_at 741 rfl rfl
  · exact tb_at 743 rfl rfl
  · exact tb_at 745 rfl rfl
  · exact tb_at 747 rfl rfl
  · exact tb_at 749 rfl rfl
  · exact tb_at 751 rfl rfl
  · exact tb_at 753 rfl rfl
  · exact tb_at 755 rfl rfl
  · exact tb_at 757 rfl rfl
abbrev b_ST_init : ByteArray := prog_1_method_1_code
def y_ST_init : MethodName := ⟨"SheetTrees", "<init>", "(III)V"⟩
abbrev b_ST_sheet : ByteArray := prog_1_method_2_code
def y_ST_sheet : MethodName := ⟨"SheetTrees", "sheet", "(IIII)I"⟩
abbrev b_ST_part : ByteArray := prog_1_method_3_code
def y_ST_part : MethodName := ⟨"SheetTrees", "part", "(IIIZ)I"⟩
abbrev b_ST_count : ByteArray := prog_1_method_4_code
def y_ST_count : MethodName := ⟨"SheetTrees", "count", "(II)I"⟩
abbrev b_ST_worth : ByteArray := prog_1_method_5_code
def y_ST_worth : MethodName := ⟨"SheetTrees", "worth", "(IIII)I"⟩
abbrev b_ST_run : ByteArray := prog_1_method_6_code
def y_ST_run : MethodName := ⟨"SheetTrees", "run", "()I"⟩
abbrev b_ST_cut : ByteArray := prog_1_method_7_code
def y_ST_cut : MethodName := ⟨"SheetTrees", "cut", "(II)I"⟩
abbrev b_ST_taken : ByteArray := prog_1_method_8_code
def y_ST_taken : MethodName := ⟨"SheetTrees", "taken", "(III)I"⟩
abbrev b_ST_rest : ByteArray := prog_1_method_9_code
def y_ST_rest : MethodName := ⟨"SheetTrees", "rest", "(III)I"⟩
abbrev b_ST_left : ByteArray := prog_1_method_10_code
def y_ST_left : MethodName := ⟨"SheetTrees", "left", "(I)I"⟩
abbrev b_ST_all : ByteArray := prog_1_method_11_code
def y_ST_all : MethodName := ⟨"SheetTrees", "all", "(I)J"⟩
abbrev b_ST_bound : ByteArray := prog_1_method_12_code
def y_ST_bound : MethodName := ⟨"SheetTrees", "bound", "()I"⟩
abbrev b_ST_nearest : ByteArray := prog_1_method_13_code
def y_ST_nearest : MethodName := ⟨"SheetTrees", "nearest", "(III)I"⟩
abbrev b_ST_isWithin : ByteArray := prog_1_method_14_code
def y_ST_isWithin : MethodName := ⟨"SheetTrees", "isWithin", "(III)Z"⟩
abbrev b_ST_isSide : ByteArray := prog_1_method_15_code
def y_ST_isSide : MethodName := ⟨"SheetTrees", "isSide", "(I)Z"⟩
abbrev b_ST_pieceAt : ByteArray := prog_1_method_16_code
def y_ST_pieceAt : MethodName := ⟨"SheetTrees", "pieceAt", "([II)I"⟩
abbrev b_ST_needRun : ByteArray := prog_1_method_17_code
def y_ST_needRun : MethodName := ⟨"SheetTrees", "needRun", "()V"⟩
abbrev b_ST_partAt : ByteArray := prog_1_method_18_code
def y_ST_partAt : MethodName := ⟨"SheetTrees", "partAt", "(I)LSheetTrees$Part;"⟩
abbrev b_ST_cutSheetAt : ByteArray := prog_1_method_19_code
def y_ST_cutSheetAt : MethodName := ⟨"SheetTrees", "cutSheetAt", "(I)LSheetTrees$CutSheet;"⟩
abbrev b_ST_partsTold : ByteArray := prog_1_method_20_code
def y_ST_partsTold : MethodName := ⟨"SheetTrees", "partsTold", "()I"⟩
abbrev b_ST_partsStillWanted : ByteArray := prog_1_method_21_code
def y_ST_partsStillWanted : MethodName := ⟨"SheetTrees", "partsStillWanted", "()I"⟩
abbrev b_ST_startRun : ByteArray := prog_1_method_22_code
def y_ST_startRun : MethodName := ⟨"SheetTrees", "startRun", "()V"⟩
abbrev b_ST_bestSheet : ByteArray := prog_1_method_23_code
def y_ST_bestSheet : MethodName := ⟨"SheetTrees", "bestSheet", "()I"⟩
abbrev b_ST_cutOneOf : ByteArray := prog_1_method_24_code
def y_ST_cutOneOf : MethodName := ⟨"SheetTrees", "cutOneOf", "(I)V"⟩
abbrev b_ST_takePieces : ByteArray := prog_1_method_25_code
def y_ST_takePieces : MethodName := ⟨"SheetTrees", "takePieces", "(LSheetTrees$CutSheet;)V"⟩
abbrev b_ST_takePart : ByteArray := prog_1_method_26_code
def y_ST_takePart : MethodName := ⟨"SheetTrees", "takePart", "(LSheetTrees$CutSheet;LSheetTrees$Part;I)V"⟩
abbrev b_ST_keepRest : ByteArray := prog_1_method_27_code
def y_ST_keepRest : MethodName := ⟨"SheetTrees", "keepRest", "(I)V"⟩
abbrev b_ST_firstAlike : ByteArray := prog_1_method_28_code
def y_ST_firstAlike : MethodName := ⟨"SheetTrees", "firstAlike", "(LSheetTrees$CutSheet;)I"⟩
abbrev b_MO_init : ByteArray := prog_9_method_1_code
def y_MO_init : MethodName := ⟨"SheetTreesModel", "<init>", "(III)V"⟩
abbrev b_MO_thrown : ByteArray := prog_9_method_2_code
def y_MO_thrown : MethodName := ⟨"SheetTreesModel", "thrown", "()I"⟩
abbrev b_MO_in : ByteArray := prog_9_method_3_code
def y_MO_in : MethodName := ⟨"SheetTreesModel", "in", "(III)Z"⟩
abbrev b_MO_sheet : ByteArray := prog_9_method_4_code
def y_MO_sheet : MethodName := ⟨"SheetTreesModel", "sheet", "(IIII)I"⟩
abbrev b_MO_part : ByteArray := prog_9_method_5_code
def y_MO_part : MethodName := ⟨"SheetTreesModel", "part", "(IIIZ)I"⟩
abbrev b_MO_count : ByteArray := prog_9_method_6_code
def y_MO_count : MethodName := ⟨"SheetTreesModel", "count", "(II)I"⟩
abbrev b_MO_place : ByteArray := prog_9_method_7_code
def y_MO_place : MethodName := ⟨"SheetTreesModel", "place", "(IIII)I"⟩
abbrev b_MO_isJust : ByteArray := prog_9_method_8_code
def y_MO_isJust : MethodName := ⟨"SheetTreesModel", "isJust", "(III)Z"⟩
abbrev b_MO_better : ByteArray := prog_9_method_9_code
def y_MO_better : MethodName := ⟨"SheetTreesModel", "better", "(IIII)V"⟩
abbrev b_MO_fillOne : ByteArray := prog_9_method_10_code
def y_MO_fillOne : MethodName := ⟨"SheetTreesModel", "fillOne", "(IIII)V"⟩
abbrev b_MO_fill : ByteArray := prog_9_method_11_code
def y_MO_fill : MethodName := ⟨"SheetTreesModel", "fill", "()V"⟩
abbrev b_MO_wantAll : ByteArray := prog_9_method_12_code
def y_MO_wantAll : MethodName := ⟨"SheetTreesModel", "wantAll", "()V"⟩
abbrev b_MO_worth : ByteArray := prog_9_method_13_code
def y_MO_worth : MethodName := ⟨"SheetTreesModel", "worth", "(IIII)I"⟩
abbrev b_MO_wayOf : ByteArray := prog_9_method_14_code
def y_MO_wayOf : MethodName := ⟨"SheetTreesModel", "wayOf", "(I)I"⟩
abbrev b_MO_push : ByteArray := prog_9_method_15_code
def y_MO_push : MethodName := ⟨"SheetTreesModel", "push", "(IIIIIII)V"⟩
abbrev b_MO_walk : ByteArray := prog_9_method_16_code
def y_MO_walk : MethodName := ⟨"SheetTreesModel", "walk", "(II)V"⟩
abbrev b_MO_keepRest : ByteArray := prog_9_method_17_code
def y_MO_keepRest : MethodName := ⟨"SheetTreesModel", "keepRest", "(IIIII)V"⟩
abbrev b_MO_take : ByteArray := prog_9_method_18_code
def y_MO_take : MethodName := ⟨"SheetTreesModel", "take", "(IIIIII)V"⟩
abbrev b_MO_run : ByteArray := prog_9_method_19_code
def y_MO_run : MethodName := ⟨"SheetTreesModel", "run", "()I"⟩
abbrev b_MO_look : ByteArray := prog_9_method_20_code
def y_MO_look : MethodName := ⟨"SheetTreesModel", "look", "(III)V"⟩
abbrev b_MO_isAlike : ByteArray := prog_9_method_21_code
def y_MO_isAlike : MethodName := ⟨"SheetTreesModel", "isAlike", "(II)Z"⟩
abbrev b_MO_cut : ByteArray := prog_9_method_22_code
def y_MO_cut : MethodName := ⟨"SheetTreesModel", "cut", "(II)I"⟩
abbrev b_MO_taken : ByteArray := prog_9_method_23_code
def y_MO_taken : MethodName := ⟨"SheetTreesModel", "taken", "(III)I"⟩
abbrev b_MO_rest : ByteArray := prog_9_method_24_code
def y_MO_rest : MethodName := ⟨"SheetTreesModel", "rest", "(III)I"⟩
abbrev b_MO_left : ByteArray := prog_9_method_25_code
def y_MO_left : MethodName := ⟨"SheetTreesModel", "left", "(I)I"⟩
abbrev b_MO_all : ByteArray := prog_9_method_26_code
def y_MO_all : MethodName := ⟨"SheetTreesModel", "all", "(I)J"⟩
abbrev b_MO_bound : ByteArray := prog_9_method_27_code
def y_MO_bound : MethodName := ⟨"SheetTreesModel", "bound", "()I"⟩
abbrev b_CS_init : ByteArray := prog_2_method_1_code
def y_CS_init : MethodName := ⟨"SheetTrees$CutSheet", "<init>", "()V"⟩
abbrev b_CS_start : ByteArray := prog_2_method_2_code
def y_CS_start : MethodName := ⟨"SheetTrees$CutSheet", "start", "(ILSheetTrees$Sheet;LSheetTrees$Layout;)V"⟩
abbrev b_LY_init : ByteArray := prog_3_method_1_code
def y_LY_init : MethodName := ⟨"SheetTrees$Layout", "<init>", "(LSheetTrees$Tables;)V"⟩
abbrev b_LY_lay : ByteArray := prog_3_method_2_code
def y_LY_lay : MethodName := ⟨"SheetTrees$Layout", "lay", "(LSheetTrees$Sheet;I)V"⟩
abbrev b_LY_layTree : ByteArray := prog_3_method_3_code
def y_LY_layTree : MethodName := ⟨"SheetTrees$Layout", "layTree", "(IIIIII)V"⟩
abbrev b_LY_addPiece : ByteArray := prog_3_method_4_code
def y_LY_addPiece : MethodName := ⟨"SheetTrees$Layout", "addPiece", "(II)V"⟩
abbrev b_LY_areaToTake : ByteArray := prog_3_method_5_code
def y_LY_areaToTake : MethodName := ⟨"SheetTrees$Layout", "areaToTake", "([LSheetTrees$Part;)I"⟩
abbrev b_LY_partsUsed : ByteArray := prog_3_method_6_code
def y_LY_partsUsed : MethodName := ⟨"SheetTrees$Layout", "partsUsed", "()I"⟩
abbrev b_PA_init : ByteArray := prog_4_method_1_code
def y_PA_init : MethodName := ⟨"SheetTrees$Part", "<init>", "()V"⟩
abbrev b_PA_area : ByteArray := prog_4_method_2_code
def y_PA_area : MethodName := ⟨"SheetTrees$Part", "area", "()I"⟩
abbrev b_PI_of : ByteArray := prog_5_method_2_code
def y_PI_of : MethodName := ⟨"SheetTrees$Piece", "of", "(IIIII)I"⟩
abbrev b_PI_field : ByteArray := prog_5_method_3_code
def y_PI_field : MethodName := ⟨"SheetTrees$Piece", "field", "(II)I"⟩
abbrev b_PI_isAtLeast : ByteArray := prog_5_method_4_code
def y_PI_isAtLeast : MethodName := ⟨"SheetTrees$Piece", "isAtLeast", "(II)Z"⟩
abbrev b_SH_init : ByteArray := prog_6_method_1_code
def y_SH_init : MethodName := ⟨"SheetTrees$Sheet", "<init>", "()V"⟩
abbrev b_SH_area : ByteArray := prog_6_method_2_code
def y_SH_area : MethodName := ⟨"SheetTrees$Sheet", "area", "()I"⟩
abbrev b_TB_init : ByteArray := prog_7_method_1_code
def y_TB_init : MethodName := ⟨"SheetTrees$Tables", "<init>", "(I)V"⟩
abbrev b_TB_fill : ByteArray := prog_7_method_2_code
def y_TB_fill : MethodName := ⟨"SheetTrees$Tables", "fill", "([LSheetTrees$Part;II)V"⟩
abbrev b_TB_valueOf : ByteArray := prog_7_method_3_code
def y_TB_valueOf : MethodName := ⟨"SheetTrees$Tables", "valueOf", "(IIII)I"⟩
abbrev b_TB_scoreOf : ByteArray := prog_7_method_4_code
def y_TB_scoreOf : MethodName := ⟨"SheetTrees$Tables", "scoreOf", "(IIII)I"⟩
abbrev b_TB_choiceOf : ByteArray := prog_7_method_5_code
def y_TB_choiceOf : MethodName := ⟨"SheetTrees$Tables", "choiceOf", "(IIII)I"⟩
abbrev b_TB_placeOf : ByteArray := prog_7_method_6_code
def y_TB_placeOf : MethodName := ⟨"SheetTrees$Tables", "placeOf", "(IIII)I"⟩
abbrev b_TB_scoreAt : ByteArray := prog_7_method_7_code
def y_TB_scoreAt : MethodName := ⟨"SheetTrees$Tables", "scoreAt", "(I)I"⟩
abbrev b_TB_choiceAt : ByteArray := prog_7_method_8_code
def y_TB_choiceAt : MethodName := ⟨"SheetTrees$Tables", "choiceAt", "(I)I"⟩
abbrev b_TB_put : ByteArray := prog_7_method_9_code
def y_TB_put : MethodName := ⟨"SheetTrees$Tables", "put", "(III)V"⟩
abbrev b_TB_fillWithoutCuts : ByteArray := prog_7_method_10_code
def y_TB_fillWithoutCuts : MethodName := ⟨"SheetTrees$Tables", "fillWithoutCuts", "([LSheetTrees$Part;)V"⟩
abbrev b_TB_putPart : ByteArray := prog_7_method_11_code
def y_TB_putPart : MethodName := ⟨"SheetTrees$Tables", "putPart", "(III)V"⟩
abbrev b_TB_fillStage : ByteArray := prog_7_method_12_code
def y_TB_fillStage : MethodName := ⟨"SheetTrees$Tables", "fillStage", "(I)V"⟩
abbrev b_TB_choose : ByteArray := prog_7_method_13_code
def y_TB_choose : MethodName := ⟨"SheetTrees$Tables", "choose", "(IIII)V"⟩
abbrev b_LW_cell : ByteArray := method_2_code
def y_LW_cell : MethodName := ⟨"SheetTreesLaw", "cell", "([II)I"⟩
abbrev b_LW_sheet : ByteArray := method_3_code
def y_LW_sheet : MethodName := ⟨"SheetTreesLaw", "sheet", "(LSheetTrees;IIII[J)I"⟩
abbrev b_LW_part : ByteArray := method_4_code
def y_LW_part : MethodName := ⟨"SheetTreesLaw", "part", "(LSheetTrees;IIIZ[J)I"⟩
abbrev b_LW_count : ByteArray := method_5_code
def y_LW_count : MethodName := ⟨"SheetTreesLaw", "count", "(LSheetTrees;II[J)I"⟩
abbrev b_LW_worth : ByteArray := method_6_code
def y_LW_worth : MethodName := ⟨"SheetTreesLaw", "worth", "(LSheetTrees;IIII[J)I"⟩
abbrev b_LW_cut : ByteArray := method_7_code
def y_LW_cut : MethodName := ⟨"SheetTreesLaw", "cut", "(LSheetTrees;II[J)I"⟩
abbrev b_LW_taken : ByteArray := method_8_code
def y_LW_taken : MethodName := ⟨"SheetTreesLaw", "taken", "(LSheetTrees;III[J)I"⟩
abbrev b_LW_rest : ByteArray := method_9_code
def y_LW_rest : MethodName := ⟨"SheetTreesLaw", "rest", "(LSheetTrees;III[J)I"⟩
abbrev b_LW_left : ByteArray := method_10_code
def y_LW_left : MethodName := ⟨"SheetTreesLaw", "left", "(LSheetTrees;I[J)I"⟩
abbrev b_LW_all : ByteArray := method_11_code
def y_LW_all : MethodName := ⟨"SheetTreesLaw", "all", "(LSheetTrees;I[J)I"⟩
abbrev b_MA_max : ByteArray := prog_14_method_65_code
def y_MA_max : MethodName := ⟨"java/lang/Math", "max", "(II)I"⟩
abbrev b_MA_min : ByteArray := prog_14_method_69_code
def y_MA_min : MethodName := ⟨"java/lang/Math", "min", "(II)I"⟩
abbrev b_AR_fill : ByteArray := prog_18_method_103_code
def y_AR_fill : MethodName := ⟨"java/util/Arrays", "fill", "([II)V"⟩
end
section
theorem d_CS_init_0 : decode b_CS_init 0 = .ok (.aload_n 0, 1) := by decide +kernel
theorem d_CS_init_1 : decode b_CS_init 1 = .ok (.invokespecial 1, 3) := by decide +kernel
theorem d_CS_init_4 : decode b_CS_init 4 = .ok (.aload_n 0, 1) := by decide +kernel
theorem d_CS_init_5 : decode b_CS_init 5 = .ok (.iconst 0, 1) := by decide +kernel
theorem d_CS_init_6 : decode b_CS_init 6 = .ok (.putfield 7, 3) := by decide +kernel
theorem d_CS_init_9 : decode b_CS_init 9 = .ok (.aload_n 0, 1) := by decide +kernel
theorem d_CS_init_10 : decode b_CS_init 10 = .ok (.iconst 0, 1) := by decide +kernel
theorem d_CS_init_11 : decode b_CS_init 11 = .ok (.putfield 13, 3) := by decide +kernel
theorem d_CS_init_14 : decode b_CS_init 14 = .ok (.aload_n 0, 1) := by decide +kernel
theorem d_CS_init_15 : decode b_CS_init 15 = .ok (.iconst 0, 1) := by decide +kernel
theorem d_CS_init_16 : decode b_CS_init 16 = .ok (.putfield 16, 3) := by decide +kernel
theorem d_CS_init_19 : decode b_CS_init 19 = .ok (.aload_n 0, 1) := by decide +kernel
theorem d_CS_init_20 : decode b_CS_init 20 = .ok (.iconst 0, 1) := by decide +kernel
theorem d_CS_init_21 : decode b_CS_init 21 = .ok (.putfield 19, 3) := by decide +kernel
theorem d_CS_init_24 : decode b_CS_init 24 = .ok (.aload_n 0, 1) := by decide +kernel
theorem d_CS_init_25 : decode b_CS_init 25 = .ok (.iconst 0, 1) := by decide +kernel
theorem d_CS_init_26 : decode b_CS_init 26 = .ok (.putfield 22, 3) := by decide +kernel
theorem d_CS_init_29 : decode b_CS_init 29 = .ok (.aload_n 0, 1) := by decide +kernel
theorem d_CS_init_30 : decode b_CS_init 30 = .ok (.iconst 0, 1) := by decide +kernel
theorem d_CS_init_31 : decode b_CS_init 31 = .ok (.putfield 25, 3) := by decide +kernel
theorem d_CS_init_34 : decode b_CS_init 34 = .ok (.aload_n 0, 1) := by decide +kernel
theorem d_CS_init_35 : decode b_CS_init 35 = .ok (.iconst 0, 1) := by decide +kernel
theorem d_CS_init_36 : decode b_CS_init 36 = .ok (.putfield 28, 3) := by decide +kernel
theorem d_CS_init_39 : decode b_CS_init 39 = .ok (.aload_n 0, 1) := by decide +kernel
theorem d_CS_init_40 : decode b_CS_init 40 = .ok (.iconst 0, 1) := by decide +kernel
theorem d_CS_init_41 : decode b_CS_init 41 = .ok (.putfield 31, 3) := by decide +kernel
theorem d_CS_init_44 : decode b_CS_init 44 = .ok (.aload_n 0, 1) := by decide +kernel
theorem d_CS_init_45 : decode b_CS_init 45 = .ok (.iconst 0, 1) := by decide +kernel
theorem d_CS_init_46 : decode b_CS_init 46 = .ok (.putfield 34, 3) := by decide +kernel
theorem d_CS_init_49 : decode b_CS_init 49 = .ok (.aload_n 0, 1) := by decide +kernel
theorem d_CS_init_50 : decode b_CS_init 50 = .ok (.iconst 0, 1) := by decide +kernel
theorem d_CS_init_51 : decode b_CS_init 51 = .ok (.putfield 37, 3) := by decide +kernel
theorem d_CS_init_54 : decode b_CS_init 54 = .ok (.aload_n 0, 1) := by decide +kernel
theorem d_CS_init_55 : decode b_CS_init 55 = .ok (.iconst 0, 1) := by decide +kernel
theorem d_CS_init_56 : decode b_CS_init 56 = .ok (.putfield 40, 3) := by decide +kernel
theorem d_CS_init_59 : decode b_CS_init 59 = .ok (.aload_n 0, 1) := by decide +kernel
theorem d_CS_init_60 : decode b_CS_init 60 = .ok (.iconst 0, 1) := by decide +kernel
theorem d_CS_init_61 : decode b_CS_init 61 = .ok (.putfield 43, 3) := by decide +kernel
theorem d_CS_init_64 : decode b_CS_init 64 = .ok (.aload_n 0, 1) := by decide +kernel
theorem d_CS_init_65 : decode b_CS_init 65 = .ok (.iconst 0, 1) := by decide +kernel
theorem d_CS_init_66 : decode b_CS_init 66 = .ok (.putfield 46, 3) := by decide +kernel
theorem d_CS_init_69 : decode b_CS_init 69 = .ok (.return_, 1) := by decide +kernel
theorem d_CS_start_0 : decode b_CS_start 0 = .ok (.aload_n 0, 1) := by decide +kernel
theorem d_CS_start_1 : decode b_CS_start 1 = .ok (.iload_n 1, 1) := by decide +kernel
theorem d_CS_start_2 : decode b_CS_start 2 = .ok (.putfield 7, 3) := by decide +kernel
theorem d_CS_start_5 : decode b_CS_start 5 = .ok (.aload_n 0, 1) := by decide +kernel
theorem d_CS_start_6 : decode b_CS_start 6 = .ok (.aload_n 2, 1) := by decide +kernel
theorem d_CS_start_7 : decode b_CS_start 7 = .ok (.getfield 49, 3) := by decide +kernel
theorem d_CS_start_10 : decode b_CS_start 10 = .ok (.putfield 13, 3) := by decide +kernel
theorem d_CS_start_13 : decode b_CS_start 13 = .ok (.aload_n 0, 1) := by decide +kernel
theorem d_CS_start_14 : decode b_CS_start 14 = .ok (.aload_n 2, 1) := by decide +kernel
theorem d_CS_start_15 : decode b_CS_start 15 = .ok (.invokevirtual 52, 3) := by decide +kernel
theorem d_CS_start_18 : decode b_CS_start 18 = .ok (.putfield 16, 3) := by decide +kernel
theorem d_CS_start_21 : decode b_CS_start 21 = .ok (.aload_n 0, 1) := by decide +kernel
theorem d_CS_start_22 : decode b_CS_start 22 = .ok (.aload_n 3, 1) := by decide +kernel
theorem d_CS_start_23 : decode b_CS_start 23 = .ok (.getfield 55, 3) := by decide +kernel
theorem d_CS_start_26 : decode b_CS_start 26 = .ok (.putfield 19, 3) := by decide +kernel
theorem d_CS_start_29 : decode b_CS_start 29 = .ok (.aload_n 0, 1) := by decide +kernel
theorem d_CS_start_30 : decode b_CS_start 30 = .ok (.aload_n 3, 1) := by decide +kernel
theorem d_CS_start_31 : decode b_CS_start 31 = .ok (.getfield 58, 3) := by decide +kernel
theorem d_CS_start_34 : decode b_CS_start 34 = .ok (.putfield 22, 3) := by decide +kernel
theorem d_CS_start_37 : decode b_CS_start 37 = .ok (.aload_n 0, 1) := by decide +kernel
theorem d_CS_start_38 : decode b_CS_start 38 = .ok (.aload_n 3, 1) := by decide +kernel
theorem d_CS_start_39 : decode b_CS_start 39 = .ok (.getfield 59, 3) := by decide +kernel
theorem d_CS_start_42 : decode b_CS_start 42 = .ok (.putfield 25, 3) := by decide +kernel
theorem d_CS_start_45 : decode b_CS_start 45 = .ok (.aload_n 0, 1) := by decide +kernel
theorem d_CS_start_46 : decode b_CS_start 46 = .ok (.aload_n 3, 1) := by decide +kernel
theorem d_CS_start_47 : decode b_CS_start 47 = .ok (.invokevirtual 60, 3) := by decide +kernel
theorem d_CS_start_50 : decode b_CS_start 50 = .ok (.putfield 28, 3) := by decide +kernel
theorem d_CS_start_53 : decode b_CS_start 53 = .ok (.aload_n 0, 1) := by decide +kernel
theorem d_CS_start_54 : decode b_CS_start 54 = .ok (.iconst 0, 1) := by decide +kernel
theorem d_CS_start_55 : decode b_CS_start 55 = .ok (.putfield 37, 3) := by decide +kernel
theorem d_CS_start_58 : decode b_CS_start 58 = .ok (.return_, 1) := by decide +kernel
theorem d_PA_init_0 : decode b_PA_init 0 = .ok (.aload_n 0, 1) := by decide +kernel
theorem d_PA_init_1 : decode b_PA_init 1 = .ok (.invokespecial 1, 3) := by decide +kernel
theorem d_PA_init_4 : decode b_PA_init 4 = .ok (.aload_n 0, 1) := by decide +kernel
theorem d_PA_init_5 : decode b_PA_init 5 = .ok (.iconst 0, 1) := by decide +kernel
theorem d_PA_init_6 : decode b_PA_init 6 = .ok (.putfield 7, 3) := by decide +kernel
theorem d_PA_init_9 : decode b_PA_init 9 = .ok (.aload_n 0, 1) := by decide +kernel
theorem d_PA_init_10 : decode b_PA_init 10 = .ok (.iconst 0, 1) := by decide +kernel
theorem d_PA_init_11 : decode b_PA_init 11 = .ok (.putfield 13, 3) := by decide +kernel
theorem d_PA_init_14 : decode b_PA_init 14 = .ok (.aload_n 0, 1) := by decide +kernel
theorem d_PA_init_15 : decode b_PA_init 15 = .ok (.iconst 0, 1) := by decide +kernel
theorem d_PA_init_16 : decode b_PA_init 16 = .ok (.putfield 16, 3) := by decide +kernel
theorem d_PA_init_19 : decode b_PA_init 19 = .ok (.aload_n 0, 1) := by decide +kernel
theorem d_PA_init_20 : decode b_PA_init 20 = .ok (.iconst 0, 1) := by decide +kernel
theorem d_PA_init_21 : decode b_PA_init 21 = .ok (.putfield 20, 3) := by decide +kernel
theorem d_PA_init_24 : decode b_PA_init 24 = .ok (.aload_n 0, 1) := by decide +kernel
theorem d_PA_init_25 : decode b_PA_init 25 = .ok (.iconst 0, 1) := by decide +kernel
theorem d_PA_init_26 : decode b_PA_init 26 = .ok (.putfield 23, 3) := by decide +kernel
theorem d_PA_init_29 : decode b_PA_init 29 = .ok (.return_, 1) := by decide +kernel
theorem d_PA_area_0 : decode b_PA_area 0 = .ok (.aload_n 0, 1) := by decide +kernel
theorem d_PA_area_1 : decode b_PA_area 1 = .ok (.getfield 7, 3) := by decide +kernel
theorem d_PA_area_4 : decode b_PA_area 4 = .ok (.aload_n 0, 1) := by decide +kernel
theorem d_PA_area_5 : decode b_PA_area 5 = .ok (.getfield 13, 3) := by decide +kernel
theorem d_PA_area_8 : decode b_PA_area 8 = .ok (.imul, 1) := by decide +kernel
theorem d_PA_area_9 : decode b_PA_area 9 = .ok (.ireturn, 1) := by decide +kernel
theorem d_PI_of_0 : decode b_PI_of 0 = .ok (.iload_n 0, 1) := by decide +kernel
theorem d_PI_of_1 : decode b_PI_of 1 = .ok (.iconst 5, 1) := by decide +kernel
theorem d_PI_of_2 : decode b_PI_of 2 = .ok (.ishl, 1) := by decide +kernel
theorem d_PI_of_3 : decode b_PI_of 3 = .ok (.iload_n 1, 1) := by decide +kernel
theorem d_PI_of_4 : decode b_PI_of 4 = .ok (.ior, 1) := by decide +kernel
theorem d_PI_of_5 : decode b_PI_of 5 = .ok (.iconst 5, 1) := by decide +kernel
theorem d_PI_of_6 : decode b_PI_of 6 = .ok (.ishl, 1) := by decide +kernel
theorem d_PI_of_7 : decode b_PI_of 7 = .ok (.iload_n 2, 1) := by decide +kernel
theorem d_PI_of_8 : decode b_PI_of 8 = .ok (.ior, 1) := by decide +kernel
theorem d_PI_of_9 : decode b_PI_of 9 = .ok (.iconst 5, 1) := by decide +kernel
theorem d_PI_of_10 : decode b_PI_of 10 = .ok (.ishl, 1) := by decide +kernel
theorem d_PI_of_11 : decode b_PI_of 11 = .ok (.iload_n 3, 1) := by decide +kernel
theorem d_PI_of_12 : decode b_PI_of 12 = .ok (.ior, 1) := by decide +kernel
theorem d_PI_of_13 : decode b_PI_of 13 = .ok (.iconst 5, 1) := by decide +kernel
theorem d_PI_of_14 : decode b_PI_of 14 = .ok (.ishl, 1) := by decide +kernel
theorem d_PI_of_15 : decode b_PI_of 15 = .ok (.iload 4, 2) := by decide +kernel
theorem d_PI_of_17 : decode b_PI_of 17 = .ok (.ior, 1) := by decide +kernel
theorem d_PI_of_18 : decode b_PI_of 18 = .ok (.ireturn, 1) := by decide +kernel
theorem d_PI_field_0 : decode b_PI_field 0 = .ok (.iload_n 0, 1) := by decide +kernel
theorem d_PI_field_1 : decode b_PI_field 1 = .ok (.iconst 5, 1) := by decide +kernel
theorem d_PI_field_2 : decode b_PI_field 2 = .ok (.iconst 4, 1) := by decide +kernel
theorem d_PI_field_3 : decode b_PI_field 3 = .ok (.iload_n 1, 1) := by decide +kernel
theorem d_PI_field_4 : decode b_PI_field 4 = .ok (.isub, 1) := by decide +kernel
theorem d_PI_field_5 : decode b_PI_field 5 = .ok (.imul, 1) := by decide +kernel
theorem d_PI_field_6 : decode b_PI_field 6 = .ok (.ishr, 1) := by decide +kernel
theorem d_PI_field_7 : decode b_PI_field 7 = .ok (.bipush 31, 2) := by decide +kernel
theorem d_PI_field_9 : decode b_PI_field 9 = .ok (.iand, 1) := by decide +kernel
theorem d_PI_field_10 : decode b_PI_field 10 = .ok (.ireturn, 1) := by decide +kernel
theorem d_PI_isAtLeast_0 : decode b_PI_isAtLeast 0 = .ok (.iload_n 0, 1) := by decide +kernel
theorem d_PI_isAtLeast_1 : decode b_PI_isAtLeast 1 = .ok (.iconst 3, 1) := by decide +kernel
theorem d_PI_isAtLeast_2 : decode b_PI_isAtLeast 2 = .ok (.invokestatic 9, 3) := by decide +kernel
theorem d_PI_isAtLeast_5 : decode b_PI_isAtLeast 5 = .ok (.iload_n 1, 1) := by decide +kernel
theorem d_PI_isAtLeast_6 : decode b_PI_isAtLeast 6 = .ok (.if_icmp .lt 16, 3) := by decide +kernel
theorem d_PI_isAtLeast_9 : decode b_PI_isAtLeast 9 = .ok (.iload_n 0, 1) := by decide +kernel
theorem d_PI_isAtLeast_10 : decode b_PI_isAtLeast 10 = .ok (.iconst 4, 1) := by decide +kernel
theorem d_PI_isAtLeast_11 : decode b_PI_isAtLeast 11 = .ok (.invokestatic 9, 3) := by decide +kernel
theorem d_PI_isAtLeast_14 : decode b_PI_isAtLeast 14 = .ok (.iload_n 1, 1) := by decide +kernel
theorem d_PI_isAtLeast_15 : decode b_PI_isAtLeast 15 = .ok (.if_icmp .lt 7, 3) := by decide +kernel
theorem d_PI_isAtLeast_18 : decode b_PI_isAtLeast 18 = .ok (.iconst 1, 1) := by decide +kernel
theorem d_PI_isAtLeast_19 : decode b_PI_isAtLeast 19 = .ok (.goto 4, 3) := by decide +kernel
theorem d_PI_isAtLeast_22 : decode b_PI_isAtLeast 22 = .ok (.iconst 0, 1) := by decide +kernel
theorem d_PI_isAtLeast_23 : decode b_PI_isAtLeast 23 = .ok (.ireturn, 1) := by decide +kernel
theorem d_SH_init_0 : decode b_SH_init 0 = .ok (.aload_n 0, 1) := by decide +kernel
theorem d_SH_init_1 : decode b_SH_init 1 = .ok (.invokespecial 1, 3) := by decide +kernel
theorem d_SH_init_4 : decode b_SH_init 4 = .ok (.aload_n 0, 1) := by decide +kernel
theorem d_SH_init_5 : decode b_SH_init 5 = .ok (.iconst 0, 1) := by decide +kernel
theorem d_SH_init_6 : decode b_SH_init 6 = .ok (.putfield 7, 3) := by decide +kernel
theorem d_SH_init_9 : decode b_SH_init 9 = .ok (.aload_n 0, 1) := by decide +kernel
theorem d_SH_init_10 : decode b_SH_init 10 = .ok (.iconst 0, 1) := by decide +kernel
theorem d_SH_init_11 : decode b_SH_init 11 = .ok (.putfield 13, 3) := by decide +kernel
theorem d_SH_init_14 : decode b_SH_init 14 = .ok (.aload_n 0, 1) := by decide +kernel
theorem d_SH_init_15 : decode b_SH_init 15 = .ok (.iconst 0, 1) := by decide +kernel
theorem d_SH_init_16 : decode b_SH_init 16 = .ok (.putfield 16, 3) := by decide +kernel
theorem d_SH_init_19 : decode b_SH_init 19 = .ok (.aload_n 0, 1) := by decide +kernel
theorem d_SH_init_20 : decode b_SH_init 20 = .ok (.iconst 0, 1) := by decide +kernel
theorem d_SH_init_21 : decode b_SH_init 21 = .ok (.putfield 19, 3) := by decide +kernel
theorem d_SH_init_24 : decode b_SH_init 24 = .ok (.aload_n 0, 1) := by decide +kernel
theorem d_SH_init_25 : decode b_SH_init 25 = .ok (.iconst 0, 1) := by decide +kernel
theorem d_SH_init_26 : decode b_SH_init 26 = .ok (.putfield 22, 3) := by decide +kernel
theorem d_SH_init_29 : decode b_SH_init 29 = .ok (.return_, 1) := by decide +kernel
theorem d_SH_area_0 : decode b_SH_area 0 = .ok (.aload_n 0, 1) := by decide +kernel
theorem d_SH_area_1 : decode b_SH_area 1 = .ok (.getfield 7, 3) := by decide +kernel
theorem d_SH_area_4 : decode b_SH_area 4 = .ok (.aload_n 0, 1) := by decide +kernel
theorem d_SH_area_5 : decode b_SH_area 5 = .ok (.getfield 13, 3) := by decide +kernel
theorem d_SH_area_8 : decode b_SH_area 8 = .ok (.imul, 1) := by decide +kernel
theorem d_SH_area_9 : decode b_SH_area 9 = .ok (.ireturn, 1) := by decide +kernel
theorem d_TB_init_0 : decode b_TB_init 0 = .ok (.aload_n 0, 1) := by decide +kernel
theorem d_TB_init_1 : decode b_TB_init 1 = .ok (.invokespecial 5, 3) := by decide +kernel
theorem d_TB_init_4 : decode b_TB_init 4 = .ok (.aload_n 0, 1) := by decide +kernel
theorem d_TB_init_5 : decode b_TB_init 5 = .ok (.sipush 2312, 3) := by decide +kernel
theorem d_TB_init_8 : decode b_TB_init 8 = .ok (.newarray .int, 2) := by decide +kernel
theorem d_TB_init_10 : decode b_TB_init 10 = .ok (.putfield 11, 3) := by decide +kernel
theorem d_TB_init_13 : decode b_TB_init 13 = .ok (.aload_n 0, 1) := by decide +kernel
theorem d_TB_init_14 : decode b_TB_init 14 = .ok (.sipush 2312, 3) := by decide +kernel
theorem d_TB_init_17 : decode b_TB_init 17 = .ok (.newarray .int, 2) := by decide +kernel
theorem d_TB_init_19 : decode b_TB_init 19 = .ok (.putfield 15, 3) := by decide +kernel
theorem d_TB_init_22 : decode b_TB_init 22 = .ok (.aload_n 0, 1) := by decide +kernel
theorem d_TB_init_23 : decode b_TB_init 23 = .ok (.iconst (-1), 1) := by decide +kernel
theorem d_TB_init_24 : decode b_TB_init 24 = .ok (.putfield 18, 3) := by decide +kernel
theorem d_TB_init_27 : decode b_TB_init 27 = .ok (.aload_n 0, 1) := by decide +kernel
theorem d_TB_init_28 : decode b_TB_init 28 = .ok (.iconst 0, 1) := by decide +kernel
theorem d_TB_init_29 : decode b_TB_init 29 = .ok (.putfield 22, 3) := by decide +kernel
theorem d_TB_init_32 : decode b_TB_init 32 = .ok (.aload_n 0, 1) := by decide +kernel
theorem d_TB_init_33 : decode b_TB_init 33 = .ok (.iload_n 1, 1) := by decide +kernel
theorem d_TB_init_34 : decode b_TB_init 34 = .ok (.putfield 25, 3) := by decide +kernel
theorem d_TB_init_37 : decode b_TB_init 37 = .ok (.return_, 1) := by decide +kernel
theorem d_TB_fill_0 : decode b_TB_fill 0 = .ok (.iload_n 2, 1) := by decide +kernel
theorem d_TB_fill_1 : decode b_TB_fill 1 = .ok (.aload_n 0, 1) := by decide +kernel
theorem d_TB_fill_2 : decode b_TB_fill 2 = .ok (.getfield 18, 3) := by decide +kernel
theorem d_TB_fill_5 : decode b_TB_fill 5 = .ok (.if_icmp .eq 18, 3) := by decide +kernel
theorem d_TB_fill_8 : decode b_TB_fill 8 = .ok (.aload_n 0, 1) := by decide +kernel
theorem d_TB_fill_9 : decode b_TB_fill 9 = .ok (.iload_n 2, 1) := by decide +kernel
theorem d_TB_fill_10 : decode b_TB_fill 10 = .ok (.putfield 18, 3) := by decide +kernel
theorem d_TB_fill_13 : decode b_TB_fill 13 = .ok (.aload_n 0, 1) := by decide +kernel
theorem d_TB_fill_14 : decode b_TB_fill 14 = .ok (.iconst 0, 1) := by decide +kernel
theorem d_TB_fill_15 : decode b_TB_fill 15 = .ok (.putfield 22, 3) := by decide +kernel
theorem d_TB_fill_18 : decode b_TB_fill 18 = .ok (.aload_n 0, 1) := by decide +kernel
theorem d_TB_fill_19 : decode b_TB_fill 19 = .ok (.aload_n 1, 1) := by decide +kernel
theorem d_TB_fill_20 : decode b_TB_fill 20 = .ok (.invokevirtual 28, 3) := by decide +kernel
theorem d_TB_fill_23 : decode b_TB_fill 23 = .ok (.aload_n 0, 1) := by decide +kernel
theorem d_TB_fill_24 : decode b_TB_fill 24 = .ok (.getfield 22, 3) := by decide +kernel
theorem d_TB_fill_27 : decode b_TB_fill 27 = .ok (.iconst 1, 1) := by decide +kernel
theorem d_TB_fill_28 : decode b_TB_fill 28 = .ok (.iadd, 1) := by decide +kernel
theorem d_TB_fill_29 : decode b_TB_fill 29 = .ok (.istore 4, 2) := by decide +kernel
theorem d_TB_fill_31 : decode b_TB_fill 31 = .ok (.iload 4, 2) := by decide +kernel
theorem d_TB_fill_33 : decode b_TB_fill 33 = .ok (.iload_n 3, 1) := by decide +kernel
theorem d_TB_fill_34 : decode b_TB_fill 34 = .ok (.if_icmp .gt 27, 3) := by decide +kernel
theorem d_TB_fill_37 : decode b_TB_fill 37 = .ok (.iload 4, 2) := by decide +kernel
theorem d_TB_fill_39 : decode b_TB_fill 39 = .ok (.iconst 3, 1) := by decide +kernel
theorem d_TB_fill_40 : decode b_TB_fill 40 = .ok (.if_icmp .gt 21, 3) := by decide +kernel
theorem d_TB_fill_43 : decode b_TB_fill 43 = .ok (.aload_n 0, 1) := by decide +kernel
theorem d_TB_fill_44 : decode b_TB_fill 44 = .ok (.iload 4, 2) := by decide +kernel
theorem d_TB_fill_46 : decode b_TB_fill 46 = .ok (.invokevirtual 32, 3) := by decide +kernel
theorem d_TB_fill_49 : decode b_TB_fill 49 = .ok (.aload_n 0, 1) := by decide +kernel
theorem d_TB_fill_50 : decode b_TB_fill 50 = .ok (.iload 4, 2) := by decide +kernel
theorem d_TB_fill_52 : decode b_TB_fill 52 = .ok (.putfield 22, 3) := by decide +kernel
theorem d_TB_fill_55 : decode b_TB_fill 55 = .ok (.iinc 4 1, 3) := by decide +kernel
theorem d_TB_fill_58 : decode b_TB_fill 58 = .ok (.goto (-27), 3) := by decide +kernel
theorem d_TB_fill_61 : decode b_TB_fill 61 = .ok (.return_, 1) := by decide +kernel
theorem d_TB_valueOf_0 : decode b_TB_valueOf 0 = .ok (.aload_n 0, 1) := by decide +kernel
theorem d_TB_valueOf_1 : decode b_TB_valueOf 1 = .ok (.iload_n 1, 1) := by decide +kernel
theorem d_TB_valueOf_2 : decode b_TB_valueOf 2 = .ok (.iload_n 2, 1) := by decide +kernel
theorem d_TB_valueOf_3 : decode b_TB_valueOf 3 = .ok (.iload_n 3, 1) := by decide +kernel
theorem d_TB_valueOf_4 : decode b_TB_valueOf 4 = .ok (.iload 4, 2) := by decide +kernel
theorem d_TB_valueOf_6 : decode b_TB_valueOf 6 = .ok (.invokevirtual 36, 3) := by decide +kernel
theorem d_TB_valueOf_9 : decode b_TB_valueOf 9 = .ok (.sipush 1024, 3) := by decide +kernel
theorem d_TB_valueOf_12 : decode b_TB_valueOf 12 = .ok (.iadd, 1) := by decide +kernel
theorem d_TB_valueOf_13 : decode b_TB_valueOf 13 = .ok (.iconst 1, 1) := by decide +kernel
theorem d_TB_valueOf_14 : decode b_TB_valueOf 14 = .ok (.isub, 1) := by decide +kernel
theorem d_TB_valueOf_15 : decode b_TB_valueOf 15 = .ok (.sipush 1024, 3) := by decide +kernel
theorem d_TB_valueOf_18 : decode b_TB_valueOf 18 = .ok (.idiv, 1) := by decide +kernel
theorem d_TB_valueOf_19 : decode b_TB_valueOf 19 = .ok (.ireturn, 1) := by decide +kernel
theorem d_TB_scoreOf_0 : decode b_TB_scoreOf 0 = .ok (.aload_n 0, 1) := by decide +kernel
theorem d_TB_scoreOf_1 : decode b_TB_scoreOf 1 = .ok (.iload_n 1, 1) := by decide +kernel
theorem d_TB_scoreOf_2 : decode b_TB_scoreOf 2 = .ok (.iload_n 2, 1) := by decide +kernel
theorem d_TB_scoreOf_3 : decode b_TB_scoreOf 3 = .ok (.iload_n 3, 1) := by decide +kernel
theorem d_TB_scoreOf_4 : decode b_TB_scoreOf 4 = .ok (.iload 4, 2) := by decide +kernel
theorem d_TB_scoreOf_6 : decode b_TB_scoreOf 6 = .ok (.invokestatic 40, 3) := by decide +kernel
theorem d_TB_scoreOf_9 : decode b_TB_scoreOf 9 = .ok (.invokevirtual 43, 3) := by decide +kernel
theorem d_TB_scoreOf_12 : decode b_TB_scoreOf 12 = .ok (.ireturn, 1) := by decide +kernel
theorem d_TB_choiceOf_0 : decode b_TB_choiceOf 0 = .ok (.aload_n 0, 1) := by decide +kernel
theorem d_TB_choiceOf_1 : decode b_TB_choiceOf 1 = .ok (.iload_n 1, 1) := by decide +kernel
theorem d_TB_choiceOf_2 : decode b_TB_choiceOf 2 = .ok (.iload_n 2, 1) := by decide +kernel
theorem d_TB_choiceOf_3 : decode b_TB_choiceOf 3 = .ok (.iload_n 3, 1) := by decide +kernel
theorem d_TB_choiceOf_4 : decode b_TB_choiceOf 4 = .ok (.iload 4, 2) := by decide +kernel
theorem d_TB_choiceOf_6 : decode b_TB_choiceOf 6 = .ok (.invokestatic 40, 3) := by decide +kernel
theorem d_TB_choiceOf_9 : decode b_TB_choiceOf 9 = .ok (.invokevirtual 47, 3) := by decide +kernel
theorem d_TB_choiceOf_12 : decode b_TB_choiceOf 12 = .ok (.ireturn, 1) := by decide +kernel
theorem d_TB_placeOf_0 : decode b_TB_placeOf 0 = .ok (.iload_n 0, 1) := by decide +kernel
theorem d_TB_placeOf_1 : decode b_TB_placeOf 1 = .ok (.iconst 2, 1) := by decide +kernel
theorem d_TB_placeOf_2 : decode b_TB_placeOf 2 = .ok (.imul, 1) := by decide +kernel
theorem d_TB_placeOf_3 : decode b_TB_placeOf 3 = .ok (.iload_n 1, 1) := by decide +kernel
theorem d_TB_placeOf_4 : decode b_TB_placeOf 4 = .ok (.iadd, 1) := by decide +kernel
theorem d_TB_placeOf_5 : decode b_TB_placeOf 5 = .ok (.bipush 17, 2) := by decide +kernel
theorem d_TB_placeOf_7 : decode b_TB_placeOf 7 = .ok (.imul, 1) := by decide +kernel
theorem d_TB_placeOf_8 : decode b_TB_placeOf 8 = .ok (.iload_n 2, 1) := by decide +kernel
theorem d_TB_placeOf_9 : decode b_TB_placeOf 9 = .ok (.iadd, 1) := by decide +kernel
theorem d_TB_placeOf_10 : decode b_TB_placeOf 10 = .ok (.bipush 17, 2) := by decide +kernel
theorem d_TB_placeOf_12 : decode b_TB_placeOf 12 = .ok (.imul, 1) := by decide +kernel
theorem d_TB_placeOf_13 : decode b_TB_placeOf 13 = .ok (.iload_n 3, 1) := by decide +kernel
theorem d_TB_placeOf_14 : decode b_TB_placeOf 14 = .ok (.iadd, 1) := by decide +kernel
theorem d_TB_placeOf_15 : decode b_TB_placeOf 15 = .ok (.ireturn, 1) := by decide +kernel
theorem d_TB_scoreAt_0 : decode b_TB_scoreAt 0 = .ok (.iload_n 1, 1) := by decide +kernel
theorem d_TB_scoreAt_1 : decode b_TB_scoreAt 1 = .ok (.ifCond .lt 21, 3) := by decide +kernel
theorem d_TB_scoreAt_4 : decode b_TB_scoreAt 4 = .ok (.iload_n 1, 1) := by decide +kernel
theorem d_TB_scoreAt_5 : decode b_TB_scoreAt 5 = .ok (.aload_n 0, 1) := by decide +kernel
theorem d_TB_scoreAt_6 : decode b_TB_scoreAt 6 = .ok (.getfield 11, 3) := by decide +kernel
theorem d_TB_scoreAt_9 : decode b_TB_scoreAt 9 = .ok (.arraylength, 1) := by decide +kernel
theorem d_TB_scoreAt_10 : decode b_TB_scoreAt 10 = .ok (.if_icmp .ge 12, 3) := by decide +kernel
theorem d_TB_scoreAt_13 : decode b_TB_scoreAt 13 = .ok (.aload_n 0, 1) := by decide +kernel
theorem d_TB_scoreAt_14 : decode b_TB_scoreAt 14 = .ok (.getfield 11, 3) := by decide +kernel
theorem d_TB_scoreAt_17 : decode b_TB_scoreAt 17 = .ok (.iload_n 1, 1) := by decide +kernel
theorem d_TB_scoreAt_18 : decode b_TB_scoreAt 18 = .ok (.iaload, 1) := by decide +kernel
theorem d_TB_scoreAt_19 : decode b_TB_scoreAt 19 = .ok (.goto 4, 3) := by decide +kernel
theorem d_TB_scoreAt_22 : decode b_TB_scoreAt 22 = .ok (.iconst 0, 1) := by decide +kernel
theorem d_TB_scoreAt_23 : decode b_TB_scoreAt 23 = .ok (.ireturn, 1) := by decide +kernel
theorem d_TB_choiceAt_0 : decode b_TB_choiceAt 0 = .ok (.iload_n 1, 1) := by decide +kernel
theorem d_TB_choiceAt_1 : decode b_TB_choiceAt 1 = .ok (.ifCond .lt 21, 3) := by decide +kernel
theorem d_TB_choiceAt_4 : decode b_TB_choiceAt 4 = .ok (.iload_n 1, 1) := by decide +kernel
theorem d_TB_choiceAt_5 : decode b_TB_choiceAt 5 = .ok (.aload_n 0, 1) := by decide +kernel
theorem d_TB_choiceAt_6 : decode b_TB_choiceAt 6 = .ok (.getfield 15, 3) := by decide +kernel
theorem d_TB_choiceAt_9 : decode b_TB_choiceAt 9 = .ok (.arraylength, 1) := by decide +kernel
theorem d_TB_choiceAt_10 : decode b_TB_choiceAt 10 = .ok (.if_icmp .ge 12, 3) := by decide +kernel
theorem d_TB_choiceAt_13 : decode b_TB_choiceAt 13 = .ok (.aload_n 0, 1) := by decide +kernel
theorem d_TB_choiceAt_14 : decode b_TB_choiceAt 14 = .ok (.getfield 15, 3) := by decide +kernel
theorem d_TB_choiceAt_17 : decode b_TB_choiceAt 17 = .ok (.iload_n 1, 1) := by decide +kernel
theorem d_TB_choiceAt_18 : decode b_TB_choiceAt 18 = .ok (.iaload, 1) := by decide +kernel
theorem d_TB_choiceAt_19 : decode b_TB_choiceAt 19 = .ok (.goto 5, 3) := by decide +kernel
theorem d_TB_choiceAt_22 : decode b_TB_choiceAt 22 = .ok (.bipush 8, 2) := by decide +kernel
theorem d_TB_choiceAt_24 : decode b_TB_choiceAt 24 = .ok (.ireturn, 1) := by decide +kernel
theorem d_TB_put_0 : decode b_TB_put 0 = .ok (.iload_n 1, 1) := by decide +kernel
theorem d_TB_put_1 : decode b_TB_put 1 = .ok (.ifCond .lt 35, 3) := by decide +kernel
theorem d_TB_put_4 : decode b_TB_put 4 = .ok (.iload_n 1, 1) := by decide +kernel
theorem d_TB_put_5 : decode b_TB_put 5 = .ok (.aload_n 0, 1) := by decide +kernel
theorem d_TB_put_6 : decode b_TB_put 6 = .ok (.getfield 11, 3) := by decide +kernel
theorem d_TB_put_9 : decode b_TB_put 9 = .ok (.arraylength, 1) := by decide +kernel
theorem d_TB_put_10 : decode b_TB_put 10 = .ok (.if_icmp .ge 26, 3) := by decide +kernel
theorem d_TB_put_13 : decode b_TB_put 13 = .ok (.iload_n 1, 1) := by decide +kernel
theorem d_TB_put_14 : decode b_TB_put 14 = .ok (.aload_n 0, 1) := by decide +kernel
theorem d_TB_put_15 : decode b_TB_put 15 = .ok (.getfield 15, 3) := by decide +kernel
theorem d_TB_put_18 : decode b_TB_put 18 = .ok (.arraylength, 1) := by decide +kernel
theorem d_TB_put_19 : decode b_TB_put 19 = .ok (.if_icmp .ge 17, 3) := by decide +kernel
theorem d_TB_put_22 : decode b_TB_put 22 = .ok (.aload_n 0, 1) := by decide +kernel
theorem d_TB_put_23 : decode b_TB_put 23 = .ok (.getfield 11, 3) := by decide +kernel
theorem d_TB_put_26 : decode b_TB_put 26 = .ok (.iload_n 1, 1) := by decide +kernel
theorem d_TB_put_27 : decode b_TB_put 27 = .ok (.iload_n 2, 1) := by decide +kernel
theorem d_TB_put_28 : decode b_TB_put 28 = .ok (.iastore, 1) := by decide +kernel
theorem d_TB_put_29 : decode b_TB_put 29 = .ok (.aload_n 0, 1) := by decide +kernel
theorem d_TB_put_30 : decode b_TB_put 30 = .ok (.getfield 15, 3) := by decide +kernel
theorem d_TB_put_33 : decode b_TB_put 33 = .ok (.iload_n 1, 1) := by decide +kernel
theorem d_TB_put_34 : decode b_TB_put 34 = .ok (.iload_n 3, 1) := by decide +kernel
theorem d_TB_put_35 : decode b_TB_put 35 = .ok (.iastore, 1) := by decide +kernel
theorem d_TB_put_36 : decode b_TB_put 36 = .ok (.return_, 1) := by decide +kernel
theorem d_TB_fillWithoutCuts_0 : decode b_TB_fillWithoutCuts 0 = .ok (.aload_n 0, 1) := by decide +kernel
theorem d_TB_fillWithoutCuts_1 : decode b_TB_fillWithoutCuts 1 = .ok (.getfield 11, 3) := by decide +kernel
theorem d_TB_fillWithoutCuts_4 : decode b_TB_fillWithoutCuts 4 = .ok (.iconst 0, 1) := by decide +kernel
theorem d_TB_fillWithoutCuts_5 : decode b_TB_fillWithoutCuts 5 = .ok (.invokestatic 50, 3) := by decide +kernel
theorem d_TB_fillWithoutCuts_8 : decode b_TB_fillWithoutCuts 8 = .ok (.aload_n 0, 1) := by decide +kernel
theorem d_TB_fillWithoutCuts_9 : decode b_TB_fillWithoutCuts 9 = .ok (.getfield 15, 3) := by decide +kernel
theorem d_TB_fillWithoutCuts_12 : decode b_TB_fillWithoutCuts 12 = .ok (.bipush 8, 2) := by decide +kernel
theorem d_TB_fillWithoutCuts_14 : decode b_TB_fillWithoutCuts 14 = .ok (.invokestatic 50, 3) := by decide +kernel
theorem d_TB_fillWithoutCuts_17 : decode b_TB_fillWithoutCuts 17 = .ok (.aload_n 1, 1) := by decide +kernel
theorem d_TB_fillWithoutCuts_18 : decode b_TB_fillWithoutCuts 18 = .ok (.arraylength, 1) := by decide +kernel
theorem d_TB_fillWithoutCuts_19 : decode b_TB_fillWithoutCuts 19 = .ok (.iconst 1, 1) := by decide +kernel
theorem d_TB_fillWithoutCuts_20 : decode b_TB_fillWithoutCuts 20 = .ok (.isub, 1) := by decide +kernel
theorem d_TB_fillWithoutCuts_21 : decode b_TB_fillWithoutCuts 21 = .ok (.istore_n 2, 1) := by decide +kernel
theorem d_TB_fillWithoutCuts_22 : decode b_TB_fillWithoutCuts 22 = .ok (.iload_n 2, 1) := by decide +kernel
theorem d_TB_fillWithoutCuts_23 : decode b_TB_fillWithoutCuts 23 = .ok (.ifCond .lt 64, 3) := by decide +kernel
theorem d_TB_fillWithoutCuts_26 : decode b_TB_fillWithoutCuts 26 = .ok (.aload_n 0, 1) := by decide +kernel
theorem d_TB_fillWithoutCuts_27 : decode b_TB_fillWithoutCuts 27 = .ok (.getfield 18, 3) := by decide +kernel
theorem d_TB_fillWithoutCuts_30 : decode b_TB_fillWithoutCuts 30 = .ok (.iload_n 2, 1) := by decide +kernel
theorem d_TB_fillWithoutCuts_31 : decode b_TB_fillWithoutCuts 31 = .ok (.ishr, 1) := by decide +kernel
theorem d_TB_fillWithoutCuts_32 : decode b_TB_fillWithoutCuts 32 = .ok (.iconst 1, 1) := by decide +kernel
theorem d_TB_fillWithoutCuts_33 : decode b_TB_fillWithoutCuts 33 = .ok (.iand, 1) := by decide +kernel
theorem d_TB_fillWithoutCuts_34 : decode b_TB_fillWithoutCuts 34 = .ok (.iconst 1, 1) := by decide +kernel
theorem d_TB_fillWithoutCuts_35 : decode b_TB_fillWithoutCuts 35 = .ok (.if_icmp .ne 46, 3) := by decide +kernel
theorem d_TB_fillWithoutCuts_38 : decode b_TB_fillWithoutCuts 38 = .ok (.aload_n 0, 1) := by decide +kernel
theorem d_TB_fillWithoutCuts_39 : decode b_TB_fillWithoutCuts 39 = .ok (.iload_n 2, 1) := by decide +kernel
theorem d_TB_fillWithoutCuts_40 : decode b_TB_fillWithoutCuts 40 = .ok (.aload_n 1, 1) := by decide +kernel
theorem d_TB_fillWithoutCuts_41 : decode b_TB_fillWithoutCuts 41 = .ok (.iload_n 2, 1) := by decide +kernel
theorem d_TB_fillWithoutCuts_42 : decode b_TB_fillWithoutCuts 42 = .ok (.aaload, 1) := by decide +kernel
theorem d_TB_fillWithoutCuts_43 : decode b_TB_fillWithoutCuts 43 = .ok (.getfield 56, 3) := by decide +kernel
theorem d_TB_fillWithoutCuts_46 : decode b_TB_fillWithoutCuts 46 = .ok (.aload_n 1, 1) := by decide +kernel
theorem d_TB_fillWithoutCuts_47 : decode b_TB_fillWithoutCuts 47 = .ok (.iload_n 2, 1) := by decide +kernel
theorem d_TB_fillWithoutCuts_48 : decode b_TB_fillWithoutCuts 48 = .ok (.aaload, 1) := by decide +kernel
theorem d_TB_fillWithoutCuts_49 : decode b_TB_fillWithoutCuts 49 = .ok (.getfield 61, 3) := by decide +kernel
theorem d_TB_fillWithoutCuts_52 : decode b_TB_fillWithoutCuts 52 = .ok (.invokevirtual 64, 3) := by decide +kernel
theorem d_TB_fillWithoutCuts_55 : decode b_TB_fillWithoutCuts 55 = .ok (.aload_n 1, 1) := by decide +kernel
theorem d_TB_fillWithoutCuts_56 : decode b_TB_fillWithoutCuts 56 = .ok (.iload_n 2, 1) := by decide +kernel
theorem d_TB_fillWithoutCuts_57 : decode b_TB_fillWithoutCuts 57 = .ok (.aaload, 1) := by decide +kernel
theorem d_TB_fillWithoutCuts_58 : decode b_TB_fillWithoutCuts 58 = .ok (.getfield 68, 3) := by decide +kernel
theorem d_TB_fillWithoutCuts_61 : decode b_TB_fillWithoutCuts 61 = .ok (.ifCond .eq 20, 3) := by decide +kernel
theorem d_TB_fillWithoutCuts_64 : decode b_TB_fillWithoutCuts 64 = .ok (.aload_n 0, 1) := by decide +kernel
theorem d_TB_fillWithoutCuts_65 : decode b_TB_fillWithoutCuts 65 = .ok (.iload_n 2, 1) := by decide +kernel
theorem d_TB_fillWithoutCuts_66 : decode b_TB_fillWithoutCuts 66 = .ok (.aload_n 1, 1) := by decide +kernel
theorem d_TB_fillWithoutCuts_67 : decode b_TB_fillWithoutCuts 67 = .ok (.iload_n 2, 1) := by decide +kernel
theorem d_TB_fillWithoutCuts_68 : decode b_TB_fillWithoutCuts 68 = .ok (.aaload, 1) := by decide +kernel
theorem d_TB_fillWithoutCuts_69 : decode b_TB_fillWithoutCuts 69 = .ok (.getfield 61, 3) := by decide +kernel
theorem d_TB_fillWithoutCuts_72 : decode b_TB_fillWithoutCuts 72 = .ok (.aload_n 1, 1) := by decide +kernel
theorem d_TB_fillWithoutCuts_73 : decode b_TB_fillWithoutCuts 73 = .ok (.iload_n 2, 1) := by decide +kernel
theorem d_TB_fillWithoutCuts_74 : decode b_TB_fillWithoutCuts 74 = .ok (.aaload, 1) := by decide +kernel
theorem d_TB_fillWithoutCuts_75 : decode b_TB_fillWithoutCuts 75 = .ok (.getfield 56, 3) := by decide +kernel
theorem d_TB_fillWithoutCuts_78 : decode b_TB_fillWithoutCuts 78 = .ok (.invokevirtual 64, 3) := by decide +kernel
theorem d_TB_fillWithoutCuts_81 : decode b_TB_fillWithoutCuts 81 = .ok (.iinc 2 (-1), 3) := by decide +kernel
theorem d_TB_fillWithoutCuts_84 : decode b_TB_fillWithoutCuts 84 = .ok (.goto (-62), 3) := by decide +kernel
theorem d_TB_fillWithoutCuts_87 : decode b_TB_fillWithoutCuts 87 = .ok (.return_, 1) := by decide +kernel
theorem d_TB_putPart_0 : decode b_TB_putPart 0 = .ok (.iload_n 2, 1) := by decide +kernel
theorem d_TB_putPart_1 : decode b_TB_putPart 1 = .ok (.iload_n 3, 1) := by decide +kernel
theorem d_TB_putPart_2 : decode b_TB_putPart 2 = .ok (.imul, 1) := by decide +kernel
theorem d_TB_putPart_3 : decode b_TB_putPart 3 = .ok (.sipush 1024, 3) := by decide +kernel
theorem d_TB_putPart_6 : decode b_TB_putPart 6 = .ok (.imul, 1) := by decide +kernel
theorem d_TB_putPart_7 : decode b_TB_putPart 7 = .ok (.istore 4, 2) := by decide +kernel
theorem d_TB_putPart_9 : decode b_TB_putPart 9 = .ok (.aload_n 0, 1) := by decide +kernel
theorem d_TB_putPart_10 : decode b_TB_putPart 10 = .ok (.iconst 0, 1) := by decide +kernel
theorem d_TB_putPart_11 : decode b_TB_putPart 11 = .ok (.iconst 0, 1) := by decide +kernel
theorem d_TB_putPart_12 : decode b_TB_putPart 12 = .ok (.iload_n 2, 1) := by decide +kernel
theorem d_TB_putPart_13 : decode b_TB_putPart 13 = .ok (.iload_n 3, 1) := by decide +kernel
theorem d_TB_putPart_14 : decode b_TB_putPart 14 = .ok (.invokestatic 40, 3) := by decide +kernel
theorem d_TB_putPart_17 : decode b_TB_putPart 17 = .ok (.iload 4, 2) := by decide +kernel
theorem d_TB_putPart_19 : decode b_TB_putPart 19 = .ok (.iload_n 1, 1) := by decide +kernel
theorem d_TB_putPart_20 : decode b_TB_putPart 20 = .ok (.invokevirtual 72, 3) := by decide +kernel
theorem d_TB_putPart_23 : decode b_TB_putPart 23 = .ok (.aload_n 0, 1) := by decide +kernel
theorem d_TB_putPart_24 : decode b_TB_putPart 24 = .ok (.iconst 0, 1) := by decide +kernel
theorem d_TB_putPart_25 : decode b_TB_putPart 25 = .ok (.iconst 1, 1) := by decide +kernel
theorem d_TB_putPart_26 : decode b_TB_putPart 26 = .ok (.iload_n 2, 1) := by decide +kernel
theorem d_TB_putPart_27 : decode b_TB_putPart 27 = .ok (.iload_n 3, 1) := by decide +kernel
theorem d_TB_putPart_28 : decode b_TB_putPart 28 = .ok (.invokestatic 40, 3) := by decide +kernel
theorem d_TB_putPart_31 : decode b_TB_putPart 31 = .ok (.iload 4, 2) := by decide +kernel
theorem d_TB_putPart_33 : decode b_TB_putPart 33 = .ok (.iload_n 1, 1) := by decide +kernel
theorem d_TB_putPart_34 : decode b_TB_putPart 34 = .ok (.invokevirtual 72, 3) := by decide +kernel
theorem d_TB_putPart_37 : decode b_TB_putPart 37 = .ok (.return_, 1) := by decide +kernel
theorem d_TB_fillStage_0 : decode b_TB_fillStage 0 = .ok (.iconst 1, 1) := by decide +kernel
theorem d_TB_fillStage_1 : decode b_TB_fillStage 1 = .ok (.istore_n 2, 1) := by decide +kernel
theorem d_TB_fillStage_2 : decode b_TB_fillStage 2 = .ok (.iload_n 2, 1) := by decide +kernel
theorem d_TB_fillStage_3 : decode b_TB_fillStage 3 = .ok (.bipush 16, 2) := by decide +kernel
theorem d_TB_fillStage_5 : decode b_TB_fillStage 5 = .ok (.if_icmp .gt 39, 3) := by decide +kernel
theorem d_TB_fillStage_8 : decode b_TB_fillStage 8 = .ok (.iconst 1, 1) := by decide +kernel
theorem d_TB_fillStage_9 : decode b_TB_fillStage 9 = .ok (.istore_n 3, 1) := by decide +kernel
theorem d_TB_fillStage_10 : decode b_TB_fillStage 10 = .ok (.iload_n 3, 1) := by decide +kernel
theorem d_TB_fillStage_11 : decode b_TB_fillStage 11 = .ok (.bipush 16, 2) := by decide +kernel
theorem d_TB_fillStage_13 : decode b_TB_fillStage 13 = .ok (.if_icmp .gt 25, 3) := by decide +kernel
theorem d_TB_fillStage_16 : decode b_TB_fillStage 16 = .ok (.aload_n 0, 1) := by decide +kernel
theorem d_TB_fillStage_17 : decode b_TB_fillStage 17 = .ok (.iload_n 1, 1) := by decide +kernel
theorem d_TB_fillStage_18 : decode b_TB_fillStage 18 = .ok (.iconst 0, 1) := by decide +kernel
theorem d_TB_fillStage_19 : decode b_TB_fillStage 19 = .ok (.iload_n 2, 1) := by decide +kernel
theorem d_TB_fillStage_20 : decode b_TB_fillStage 20 = .ok (.iload_n 3, 1) := by decide +kernel
theorem d_TB_fillStage_21 : decode b_TB_fillStage 21 = .ok (.invokevirtual 75, 3) := by decide +kernel
theorem d_TB_fillStage_24 : decode b_TB_fillStage 24 = .ok (.aload_n 0, 1) := by decide +kernel
theorem d_TB_fillStage_25 : decode b_TB_fillStage 25 = .ok (.iload_n 1, 1) := by decide +kernel
theorem d_TB_fillStage_26 : decode b_TB_fillStage 26 = .ok (.iconst 1, 1) := by decide +kernel
theorem d_TB_fillStage_27 : decode b_TB_fillStage 27 = .ok (.iload_n 2, 1) := by decide +kernel
theorem d_TB_fillStage_28 : decode b_TB_fillStage 28 = .ok (.iload_n 3, 1) := by decide +kernel
theorem d_TB_fillStage_29 : decode b_TB_fillStage 29 = .ok (.invokevirtual 75, 3) := by decide +kernel
theorem d_TB_fillStage_32 : decode b_TB_fillStage 32 = .ok (.iinc 3 1, 3) := by decide +kernel
theorem d_TB_fillStage_35 : decode b_TB_fillStage 35 = .ok (.goto (-25), 3) := by decide +kernel
theorem d_TB_fillStage_38 : decode b_TB_fillStage 38 = .ok (.iinc 2 1, 3) := by decide +kernel
theorem d_TB_fillStage_41 : decode b_TB_fillStage 41 = .ok (.goto (-39), 3) := by decide +kernel
theorem d_TB_fillStage_44 : decode b_TB_fillStage 44 = .ok (.return_, 1) := by decide +kernel
theorem d_TB_choose_0 : decode b_TB_choose 0 = .ok (.iconst 0, 1) := by decide +kernel
theorem d_TB_choose_1 : decode b_TB_choose 1 = .ok (.iload_n 2, 1) := by decide +kernel
theorem d_TB_choose_2 : decode b_TB_choose 2 = .ok (.iload_n 3, 1) := by decide +kernel
theorem d_TB_choose_3 : decode b_TB_choose 3 = .ok (.iload 4, 2) := by decide +kernel
theorem d_TB_choose_5 : decode b_TB_choose 5 = .ok (.invokestatic 40, 3) := by decide +kernel
theorem d_TB_choose_8 : decode b_TB_choose 8 = .ok (.istore 5, 2) := by decide +kernel
theorem d_TB_choose_10 : decode b_TB_choose 10 = .ok (.aload_n 0, 1) := by decide +kernel
theorem d_TB_choose_11 : decode b_TB_choose 11 = .ok (.iload 5, 2) := by decide +kernel
theorem d_TB_choose_13 : decode b_TB_choose 13 = .ok (.invokevirtual 43, 3) := by decide +kernel
theorem d_TB_choose_16 : decode b_TB_choose 16 = .ok (.istore 6, 2) := by decide +kernel
theorem d_TB_choose_18 : decode b_TB_choose 18 = .ok (.aload_n 0, 1) := by decide +kernel
theorem d_TB_choose_19 : decode b_TB_choose 19 = .ok (.iload 5, 2) := by decide +kernel
theorem d_TB_choose_21 : decode b_TB_choose 21 = .ok (.invokevirtual 47, 3) := by decide +kernel
theorem d_TB_choose_24 : decode b_TB_choose 24 = .ok (.istore 7, 2) := by decide +kernel
theorem d_TB_choose_26 : decode b_TB_choose 26 = .ok (.iload_n 2, 1) := by decide +kernel
theorem d_TB_choose_27 : decode b_TB_choose 27 = .ok (.ifCond .ne 7, 3) := by decide +kernel
theorem d_TB_choose_30 : decode b_TB_choose 30 = .ok (.iload_n 3, 1) := by decide +kernel
theorem d_TB_choose_31 : decode b_TB_choose 31 = .ok (.goto 5, 3) := by decide +kernel
theorem d_TB_choose_34 : decode b_TB_choose 34 = .ok (.iload 4, 2) := by decide +kernel
theorem d_TB_choose_36 : decode b_TB_choose 36 = .ok (.istore 8, 2) := by decide +kernel
theorem d_TB_choose_38 : decode b_TB_choose 38 = .ok (.iload_n 2, 1) := by decide +kernel
theorem d_TB_choose_39 : decode b_TB_choose 39 = .ok (.ifCond .ne 13, 3) := by decide +kernel
theorem d_TB_choose_42 : decode b_TB_choose 42 = .ok (.iconst 0, 1) := by decide +kernel
theorem d_TB_choose_43 : decode b_TB_choose 43 = .ok (.iconst 0, 1) := by decide +kernel
theorem d_TB_choose_44 : decode b_TB_choose 44 = .ok (.iconst 1, 1) := by decide +kernel
theorem d_TB_choose_45 : decode b_TB_choose 45 = .ok (.iconst 0, 1) := by decide +kernel
theorem d_TB_choose_46 : decode b_TB_choose 46 = .ok (.invokestatic 40, 3) := by decide +kernel
theorem d_TB_choose_49 : decode b_TB_choose 49 = .ok (.goto 10, 3) := by decide +kernel
theorem d_TB_choose_52 : decode b_TB_choose 52 = .ok (.iconst 0, 1) := by decide +kernel
theorem d_TB_choose_53 : decode b_TB_choose 53 = .ok (.iconst 0, 1) := by decide +kernel
theorem d_TB_choose_54 : decode b_TB_choose 54 = .ok (.iconst 0, 1) := by decide +kernel
theorem d_TB_choose_55 : decode b_TB_choose 55 = .ok (.iconst 1, 1) := by decide +kernel
theorem d_TB_choose_56 : decode b_TB_choose 56 = .ok (.invokestatic 40, 3) := by decide +kernel
theorem d_TB_choose_59 : decode b_TB_choose 59 = .ok (.istore 9, 2) := by decide +kernel
theorem d_TB_choose_61 : decode b_TB_choose 61 = .ok (.iload_n 1, 1) := by decide +kernel
theorem d_TB_choose_62 : decode b_TB_choose 62 = .ok (.iconst 1, 1) := by decide +kernel
theorem d_TB_choose_63 : decode b_TB_choose 63 = .ok (.isub, 1) := by decide +kernel
theorem d_TB_choose_64 : decode b_TB_choose 64 = .ok (.iconst 1, 1) := by decide +kernel
theorem d_TB_choose_65 : decode b_TB_choose 65 = .ok (.iload_n 2, 1) := by decide +kernel
theorem d_TB_choose_66 : decode b_TB_choose 66 = .ok (.isub, 1) := by decide +kernel
theorem d_TB_choose_67 : decode b_TB_choose 67 = .ok (.iload_n 3, 1) := by decide +kernel
theorem d_TB_choose_68 : decode b_TB_choose 68 = .ok (.iload 4, 2) := by decide +kernel
theorem d_TB_choose_70 : decode b_TB_choose 70 = .ok (.invokestatic 40, 3) := by decide +kernel
theorem d_TB_choose_73 : decode b_TB_choose 73 = .ok (.iload 8, 2) := by decide +kernel
theorem d_TB_choose_75 : decode b_TB_choose 75 = .ok (.iload 9, 2) := by decide +kernel
theorem d_TB_choose_77 : decode b_TB_choose 77 = .ok (.imul, 1) := by decide +kernel
theorem d_TB_choose_78 : decode b_TB_choose 78 = .ok (.isub, 1) := by decide +kernel
theorem d_TB_choose_79 : decode b_TB_choose 79 = .ok (.istore 10, 2) := by decide +kernel
theorem d_TB_choose_81 : decode b_TB_choose 81 = .ok (.iload_n 1, 1) := by decide +kernel
theorem d_TB_choose_82 : decode b_TB_choose 82 = .ok (.iload_n 2, 1) := by decide +kernel
theorem d_TB_choose_83 : decode b_TB_choose 83 = .ok (.iload_n 3, 1) := by decide +kernel
theorem d_TB_choose_84 : decode b_TB_choose 84 = .ok (.iload 4, 2) := by decide +kernel
theorem d_TB_choose_86 : decode b_TB_choose 86 = .ok (.invokestatic 40, 3) := by decide +kernel
theorem d_TB_choose_89 : decode b_TB_choose 89 = .ok (.iload 8, 2) := by decide +kernel
theorem d_TB_choose_91 : decode b_TB_choose 91 = .ok (.iload 9, 2) := by decide +kernel
theorem d_TB_choose_93 : decode b_TB_choose 93 = .ok (.imul, 1) := by decide +kernel
theorem d_TB_choose_94 : decode b_TB_choose 94 = .ok (.isub, 1) := by decide +kernel
theorem d_TB_choose_95 : decode b_TB_choose 95 = .ok (.istore 11, 2) := by decide +kernel
theorem d_TB_choose_97 : decode b_TB_choose 97 = .ok (.iconst 1, 1) := by decide +kernel
theorem d_TB_choose_98 : decode b_TB_choose 98 = .ok (.istore 12, 2) := by decide +kernel
theorem d_TB_choose_100 : decode b_TB_choose 100 = .ok (.iload 12, 2) := by decide +kernel
theorem d_TB_choose_102 : decode b_TB_choose 102 = .ok (.iload 8, 2) := by decide +kernel
theorem d_TB_choose_104 : decode b_TB_choose 104 = .ok (.if_icmp .ge 72, 3) := by decide +kernel
theorem d_TB_choose_107 : decode b_TB_choose 107 = .ok (.iconst 0, 1) := by decide +kernel
theorem d_TB_choose_108 : decode b_TB_choose 108 = .ok (.iload 8, 2) := by decide +kernel
theorem d_TB_choose_110 : decode b_TB_choose 110 = .ok (.iload 12, 2) := by decide +kernel
theorem d_TB_choose_112 : decode b_TB_choose 112 = .ok (.isub, 1) := by decide +kernel
theorem d_TB_choose_113 : decode b_TB_choose 113 = .ok (.aload_n 0, 1) := by decide +kernel
theorem d_TB_choose_114 : decode b_TB_choose 114 = .ok (.getfield 25, 3) := by decide +kernel
theorem d_TB_choose_117 : decode b_TB_choose 117 = .ok (.isub, 1) := by decide +kernel
theorem d_TB_choose_118 : decode b_TB_choose 118 = .ok (.invokestatic 79, 3) := by decide +kernel
theorem d_TB_choose_121 : decode b_TB_choose 121 = .ok (.istore 13, 2) := by decide +kernel
theorem d_TB_choose_123 : decode b_TB_choose 123 = .ok (.aload_n 0, 1) := by decide +kernel
theorem d_TB_choose_124 : decode b_TB_choose 124 = .ok (.iload 10, 2) := by decide +kernel
theorem d_TB_choose_126 : decode b_TB_choose 126 = .ok (.iload 12, 2) := by decide +kernel
theorem d_TB_choose_128 : decode b_TB_choose 128 = .ok (.iload 9, 2) := by decide +kernel
theorem d_TB_choose_130 : decode b_TB_choose 130 = .ok (.imul, 1) := by decide +kernel
theorem d_TB_choose_131 : decode b_TB_choose 131 = .ok (.iadd, 1) := by decide +kernel
theorem d_TB_choose_132 : decode b_TB_choose 132 = .ok (.invokevirtual 43, 3) := by decide +kernel
theorem d_TB_choose_135 : decode b_TB_choose 135 = .ok (.aload_n 0, 1) := by decide +kernel
theorem d_TB_choose_136 : decode b_TB_choose 136 = .ok (.iload 11, 2) := by decide +kernel
theorem d_TB_choose_138 : decode b_TB_choose 138 = .ok (.iload 13, 2) := by decide +kernel
theorem d_TB_choose_140 : decode b_TB_choose 140 = .ok (.iload 9, 2) := by decide +kernel
theorem d_TB_choose_142 : decode b_TB_choose 142 = .ok (.imul, 1) := by decide +kernel
theorem d_TB_choose_143 : decode b_TB_choose 143 = .ok (.iadd, 1) := by decide +kernel
theorem d_TB_choose_144 : decode b_TB_choose 144 = .ok (.invokevirtual 43, 3) := by decide +kernel
theorem d_TB_choose_147 : decode b_TB_choose 147 = .ok (.iadd, 1) := by decide +kernel
theorem d_TB_choose_148 : decode b_TB_choose 148 = .ok (.iconst 1, 1) := by decide +kernel
theorem d_TB_choose_149 : decode b_TB_choose 149 = .ok (.isub, 1) := by decide +kernel
theorem d_TB_choose_150 : decode b_TB_choose 150 = .ok (.istore 14, 2) := by decide +kernel
theorem d_TB_choose_152 : decode b_TB_choose 152 = .ok (.iload 14, 2) := by decide +kernel
theorem d_TB_choose_154 : decode b_TB_choose 154 = .ok (.iload 6, 2) := by decide +kernel
theorem d_TB_choose_156 : decode b_TB_choose 156 = .ok (.if_icmp .le 14, 3) := by decide +kernel
theorem d_TB_choose_159 : decode b_TB_choose 159 = .ok (.iload 14, 2) := by decide +kernel
theorem d_TB_choose_161 : decode b_TB_choose 161 = .ok (.istore 6, 2) := by decide +kernel
theorem d_TB_choose_163 : decode b_TB_choose 163 = .ok (.bipush 8, 2) := by decide +kernel
theorem d_TB_choose_165 : decode b_TB_choose 165 = .ok (.iload 12, 2) := by decide +kernel
theorem d_TB_choose_167 : decode b_TB_choose 167 = .ok (.iadd, 1) := by decide +kernel
theorem d_TB_choose_168 : decode b_TB_choose 168 = .ok (.istore 7, 2) := by decide +kernel
theorem d_TB_choose_170 : decode b_TB_choose 170 = .ok (.iinc 12 1, 3) := by decide +kernel
theorem d_TB_choose_173 : decode b_TB_choose 173 = .ok (.goto (-73), 3) := by decide +kernel
theorem d_TB_choose_176 : decode b_TB_choose 176 = .ok (.aload_n 0, 1) := by decide +kernel
theorem d_TB_choose_177 : decode b_TB_choose 177 = .ok (.iload 11, 2) := by decide +kernel
theorem d_TB_choose_179 : decode b_TB_choose 179 = .ok (.iload 8, 2) := by decide +kernel
theorem d_TB_choose_181 : decode b_TB_choose 181 = .ok (.iload 9, 2) := by decide +kernel
theorem d_TB_choose_183 : decode b_TB_choose 183 = .ok (.imul, 1) := by decide +kernel
theorem d_TB_choose_184 : decode b_TB_choose 184 = .ok (.iadd, 1) := by decide +kernel
theorem d_TB_choose_185 : decode b_TB_choose 185 = .ok (.iload 6, 2) := by decide +kernel
theorem d_TB_choose_187 : decode b_TB_choose 187 = .ok (.iload 7, 2) := by decide +kernel
theorem d_TB_choose_189 : decode b_TB_choose 189 = .ok (.invokevirtual 72, 3) := by decide +kernel
theorem d_TB_choose_192 : decode b_TB_choose 192 = .ok (.return_, 1) := by decide +kernel
theorem d_AR_fill_0 : decode b_AR_fill 0 = .ok (.iconst 0, 1) := by decide +kernel
theorem d_AR_fill_1 : decode b_AR_fill 1 = .ok (.istore_n 2, 1) := by decide +kernel
theorem d_AR_fill_2 : decode b_AR_fill 2 = .ok (.aload_n 0, 1) := by decide +kernel
theorem d_AR_fill_3 : decode b_AR_fill 3 = .ok (.arraylength, 1) := by decide +kernel
theorem d_AR_fill_4 : decode b_AR_fill 4 = .ok (.istore_n 3, 1) := by decide +kernel
theorem d_AR_fill_5 : decode b_AR_fill 5 = .ok (.iload_n 2, 1) := by decide +kernel
theorem d_AR_fill_6 : decode b_AR_fill 6 = .ok (.iload_n 3, 1) := by decide +kernel
theorem d_AR_fill_7 : decode b_AR_fill 7 = .ok (.if_icmp .ge 13, 3) := by decide +kernel
theorem d_AR_fill_10 : decode b_AR_fill 10 = .ok (.aload_n 0, 1) := by decide +kernel
theorem d_AR_fill_11 : decode b_AR_fill 11 = .ok (.iload_n 2, 1) := by decide +kernel
theorem d_AR_fill_12 : decode b_AR_fill 12 = .ok (.iload_n 1, 1) := by decide +kernel
theorem d_AR_fill_13 : decode b_AR_fill 13 = .ok (.iastore, 1) := by decide +kernel
theorem d_AR_fill_14 : decode b_AR_fill 14 = .ok (.iinc 2 1, 3) := by decide +kernel
theorem d_AR_fill_17 : decode b_AR_fill 17 = .ok (.goto (-12), 3) := by decide +kernel
theorem d_AR_fill_20 : decode b_AR_fill 20 = .ok (.return_, 1) := by decide +kernel
end
section
theorem d_ST_init_0 : decode b_ST_init 0 = .ok (.aload_n 0, 1) := by decide +kernel
theorem d_ST_init_1 : decode b_ST_init 1 = .ok (.invokespecial 3, 3) := by decide +kernel
theorem d_ST_init_4 : decode b_ST_init 4 = .ok (.aload_n 0, 1) := by decide +kernel
theorem d_ST_init_5 : decode b_ST_init 5 = .ok (.iconst 4, 1) := by decide +kernel
theorem d_ST_init_6 : decode b_ST_init 6 = .ok (.anewarray 9, 3) := by decide +kernel
theorem d_ST_init_9 : decode b_ST_init 9 = .ok (.putfield 11, 3) := by decide +kernel
theorem d_ST_init_12 : decode b_ST_init 12 = .ok (.aload_n 0, 1) := by decide +kernel
theorem d_ST_init_13 : decode b_ST_init 13 = .ok (.bipush 8, 2) := by decide +kernel
theorem d_ST_init_15 : decode b_ST_init 15 = .ok (.anewarray 15, 3) := by decide +kernel
theorem d_ST_init_18 : decode b_ST_init 18 = .ok (.putfield 17, 3) := by decide +kernel
theorem d_ST_init_21 : decode b_ST_init 21 = .ok (.aload_n 0, 1) := by decide +kernel
theorem d_ST_init_22 : decode b_ST_init 22 = .ok (.bipush 20, 2) := by decide +kernel
theorem d_ST_init_24 : decode b_ST_init 24 = .ok (.anewarray 21, 3) := by decide +kernel
theorem d_ST_init_27 : decode b_ST_init 27 = .ok (.putfield 23, 3) := by decide +kernel
theorem d_ST_init_30 : decode b_ST_init 30 = .ok (.aload_n 0, 1) := by decide +kernel
theorem d_ST_init_31 : decode b_ST_init 31 = .ok (.sipush 400, 3) := by decide +kernel
theorem d_ST_init_34 : decode b_ST_init 34 = .ok (.newarray .int, 2) := by decide +kernel
theorem d_ST_init_36 : decode b_ST_init 36 = .ok (.putfield 27, 3) := by decide +kernel
theorem d_ST_init_39 : decode b_ST_init 39 = .ok (.aload_n 0, 1) := by decide +kernel
theorem d_ST_init_40 : decode b_ST_init 40 = .ok (.sipush 5120, 3) := by decide +kernel
theorem d_ST_init_43 : decode b_ST_init 43 = .ok (.newarray .int, 2) := by decide +kernel
theorem d_ST_init_45 : decode b_ST_init 45 = .ok (.putfield 31, 3) := by decide +kernel
theorem d_ST_init_48 : decode b_ST_init 48 = .ok (.aload_n 0, 1) := by decide +kernel
theorem d_ST_init_49 : decode b_ST_init 49 = .ok (.iconst 0, 1) := by decide +kernel
theorem d_ST_init_50 : decode b_ST_init 50 = .ok (.putfield 34, 3) := by decide +kernel
theorem d_ST_init_53 : decode b_ST_init 53 = .ok (.aload_n 0, 1) := by decide +kernel
theorem d_ST_init_54 : decode b_ST_init 54 = .ok (.iconst 0, 1) := by decide +kernel
theorem d_ST_init_55 : decode b_ST_init 55 = .ok (.putfield 38, 3) := by decide +kernel
theorem d_ST_init_58 : decode b_ST_init 58 = .ok (.aload_n 0, 1) := by decide +kernel
theorem d_ST_init_59 : decode b_ST_init 59 = .ok (.iconst 0, 1) := by decide +kernel
theorem d_ST_init_60 : decode b_ST_init 60 = .ok (.putfield 41, 3) := by decide +kernel
theorem d_ST_init_63 : decode b_ST_init 63 = .ok (.aload_n 0, 1) := by decide +kernel
theorem d_ST_init_64 : decode b_ST_init 64 = .ok (.iconst 0, 1) := by decide +kernel
theorem d_ST_init_65 : decode b_ST_init 65 = .ok (.putfield 44, 3) := by decide +kernel
theorem d_ST_init_68 : decode b_ST_init 68 = .ok (.aload_n 0, 1) := by decide +kernel
theorem d_ST_init_69 : decode b_ST_init 69 = .ok (.iconst 0, 1) := by decide +kernel
theorem d_ST_init_70 : decode b_ST_init 70 = .ok (.putfield 47, 3) := by decide +kernel
theorem d_ST_init_73 : decode b_ST_init 73 = .ok (.aload_n 0, 1) := by decide +kernel
theorem d_ST_init_74 : decode b_ST_init 74 = .ok (.iconst 0, 1) := by decide +kernel
theorem d_ST_init_75 : decode b_ST_init 75 = .ok (.putfield 50, 3) := by decide +kernel
theorem d_ST_init_78 : decode b_ST_init 78 = .ok (.aload_n 0, 1) := by decide +kernel
theorem d_ST_init_79 : decode b_ST_init 79 = .ok (.iload_n 2, 1) := by decide +kernel
theorem d_ST_init_80 : decode b_ST_init 80 = .ok (.iconst 1, 1) := by decide +kernel
theorem d_ST_init_81 : decode b_ST_init 81 = .ok (.iconst 3, 1) := by decide +kernel
theorem d_ST_init_82 : decode b_ST_init 82 = .ok (.invokestatic 54, 3) := by decide +kernel
theorem d_ST_init_85 : decode b_ST_init 85 = .ok (.putfield 58, 3) := by decide +kernel
theorem d_ST_init_88 : decode b_ST_init 88 = .ok (.aload_n 0, 1) := by decide +kernel
theorem d_ST_init_89 : decode b_ST_init 89 = .ok (.iload_n 3, 1) := by decide +kernel
theorem d_ST_init_90 : decode b_ST_init 90 = .ok (.iconst 1, 1) := by decide +kernel
theorem d_ST_init_91 : decode b_ST_init 91 = .ok (.bipush 16, 2) := by decide +kernel
theorem d_ST_init_93 : decode b_ST_init 93 = .ok (.invokestatic 54, 3) := by decide +kernel
theorem d_ST_init_96 : decode b_ST_init 96 = .ok (.putfield 61, 3) := by decide +kernel
theorem d_ST_init_99 : decode b_ST_init 99 = .ok (.aload_n 0, 1) := by decide +kernel
theorem d_ST_init_100 : decode b_ST_init 100 = .ok (.new 64, 3) := by decide +kernel
theorem d_ST_init_103 : decode b_ST_init 103 = .ok (.dup, 1) := by decide +kernel
theorem d_ST_init_104 : decode b_ST_init 104 = .ok (.iload_n 1, 1) := by decide +kernel
theorem d_ST_init_105 : decode b_ST_init 105 = .ok (.iconst 0, 1) := by decide +kernel
theorem d_ST_init_106 : decode b_ST_init 106 = .ok (.iconst 3, 1) := by decide +kernel
theorem d_ST_init_107 : decode b_ST_init 107 = .ok (.invokestatic 54, 3) := by decide +kernel
theorem d_ST_init_110 : decode b_ST_init 110 = .ok (.invokespecial 66, 3) := by decide +kernel
theorem d_ST_init_113 : decode b_ST_init 113 = .ok (.putfield 69, 3) := by decide +kernel
theorem d_ST_init_116 : decode b_ST_init 116 = .ok (.aload_n 0, 1) := by decide +kernel
theorem d_ST_init_117 : decode b_ST_init 117 = .ok (.new 73, 3) := by decide +kernel
theorem d_ST_init_120 : decode b_ST_init 120 = .ok (.dup, 1) := by decide +kernel
theorem d_ST_init_121 : decode b_ST_init 121 = .ok (.aload_n 0, 1) := by decide +kernel
theorem d_ST_init_122 : decode b_ST_init 122 = .ok (.getfield 69, 3) := by decide +kernel
theorem d_ST_init_125 : decode b_ST_init 125 = .ok (.invokespecial 75, 3) := by decide +kernel
theorem d_ST_init_128 : decode b_ST_init 128 = .ok (.putfield 78, 3) := by decide +kernel
theorem d_ST_init_131 : decode b_ST_init 131 = .ok (.iconst 0, 1) := by decide +kernel
theorem d_ST_init_132 : decode b_ST_init 132 = .ok (.istore 4, 2) := by decide +kernel
theorem d_ST_init_134 : decode b_ST_init 134 = .ok (.iload 4, 2) := by decide +kernel
theorem d_ST_init_136 : decode b_ST_init 136 = .ok (.aload_n 0, 1) := by decide +kernel
theorem d_ST_init_137 : decode b_ST_init 137 = .ok (.getfield 11, 3) := by decide +kernel
theorem d_ST_init_140 : decode b_ST_init 140 = .ok (.arraylength, 1) := by decide +kernel
theorem d_ST_init_141 : decode b_ST_init 141 = .ok (.if_icmp .ge 23, 3) := by decide +kernel
theorem d_ST_init_144 : decode b_ST_init 144 = .ok (.aload_n 0, 1) := by decide +kernel
theorem d_ST_init_145 : decode b_ST_init 145 = .ok (.getfield 11, 3) := by decide +kernel
theorem d_ST_init_148 : decode b_ST_init 148 = .ok (.iload 4, 2) := by decide +kernel
theorem d_ST_init_150 : decode b_ST_init 150 = .ok (.new 9, 3) := by decide +kernel
theorem d_ST_init_153 : decode b_ST_init 153 = .ok (.dup, 1) := by decide +kernel
theorem d_ST_init_154 : decode b_ST_init 154 = .ok (.invokespecial 82, 3) := by decide +kernel
theorem d_ST_init_157 : decode b_ST_init 157 = .ok (.aastore, 1) := by decide +kernel
theorem d_ST_init_158 : decode b_ST_init 158 = .ok (.iinc 4 1, 3) := by decide +kernel
theorem d_ST_init_161 : decode b_ST_init 161 = .ok (.goto (-27), 3) := by decide +kernel
theorem d_ST_init_164 : decode b_ST_init 164 = .ok (.iconst 0, 1) := by decide +kernel
theorem d_ST_init_165 : decode b_ST_init 165 = .ok (.istore 4, 2) := by decide +kernel
theorem d_ST_init_167 : decode b_ST_init 167 = .ok (.iload 4, 2) := by decide +kernel
theorem d_ST_init_169 : decode b_ST_init 169 = .ok (.aload_n 0, 1) := by decide +kernel
theorem d_ST_init_170 : decode b_ST_init 170 = .ok (.getfield 17, 3) := by decide +kernel
theorem d_ST_init_173 : decode b_ST_init 173 = .ok (.arraylength, 1) := by decide +kernel
theorem d_ST_init_174 : decode b_ST_init 174 = .ok (.if_icmp .ge 23, 3) := by decide +kernel
theorem d_ST_init_177 : decode b_ST_init 177 = .ok (.aload_n 0, 1) := by decide +kernel
theorem d_ST_init_178 : decode b_ST_init 178 = .ok (.getfield 17, 3) := by decide +kernel
theorem d_ST_init_181 : decode b_ST_init 181 = .ok (.iload 4, 2) := by decide +kernel
theorem d_ST_init_183 : decode b_ST_init 183 = .ok (.new 15, 3) := by decide +kernel
theorem d_ST_init_186 : decode b_ST_init 186 = .ok (.dup, 1) := by decide +kernel
theorem d_ST_init_187 : decode b_ST_init 187 = .ok (.invokespecial 83, 3) := by decide +kernel
theorem d_ST_init_190 : decode b_ST_init 190 = .ok (.aastore, 1) := by decide +kernel
theorem d_ST_init_191 : decode b_ST_init 191 = .ok (.iinc 4 1, 3) := by decide +kernel
theorem d_ST_init_194 : decode b_ST_init 194 = .ok (.goto (-27), 3) := by decide +kernel
theorem d_ST_init_197 : decode b_ST_init 197 = .ok (.iconst 0, 1) := by decide +kernel
theorem d_ST_init_198 : decode b_ST_init 198 = .ok (.istore 4, 2) := by decide +kernel
theorem d_ST_init_200 : decode b_ST_init 200 = .ok (.iload 4, 2) := by decide +kernel
theorem d_ST_init_202 : decode b_ST_init 202 = .ok (.aload_n 0, 1) := by decide +kernel
theorem d_ST_init_203 : decode b_ST_init 203 = .ok (.getfield 23, 3) := by decide +kernel
theorem d_ST_init_206 : decode b_ST_init 206 = .ok (.arraylength, 1) := by decide +kernel
theorem d_ST_init_207 : decode b_ST_init 207 = .ok (.if_icmp .ge 23, 3) := by decide +kernel
theorem d_ST_init_210 : decode b_ST_init 210 = .ok (.aload_n 0, 1) := by decide +kernel
theorem d_ST_init_211 : decode b_ST_init 211 = .ok (.getfield 23, 3) := by decide +kernel
theorem d_ST_init_214 : decode b_ST_init 214 = .ok (.iload 4, 2) := by decide +kernel
theorem d_ST_init_216 : decode b_ST_init 216 = .ok (.new 21, 3) := by decide +kernel
theorem d_ST_init_219 : decode b_ST_init 219 = .ok (.dup, 1) := by decide +kernel
theorem d_ST_init_220 : decode b_ST_init 220 = .ok (.invokespecial 84, 3) := by decide +kernel
theorem d_ST_init_223 : decode b_ST_init 223 = .ok (.aastore, 1) := by decide +kernel
theorem d_ST_init_224 : decode b_ST_init 224 = .ok (.iinc 4 1, 3) := by decide +kernel
theorem d_ST_init_227 : decode b_ST_init 227 = .ok (.goto (-27), 3) := by decide +kernel
theorem d_ST_init_230 : decode b_ST_init 230 = .ok (.return_, 1) := by decide +kernel
theorem d_ST_sheet_0 : decode b_ST_sheet 0 = .ok (.iload_n 1, 1) := by decide +kernel
theorem d_ST_sheet_1 : decode b_ST_sheet 1 = .ok (.invokestatic 85, 3) := by decide +kernel
theorem d_ST_sheet_4 : decode b_ST_sheet 4 = .ok (.ifCond .eq 10, 3) := by decide +kernel
theorem d_ST_sheet_7 : decode b_ST_sheet 7 = .ok (.iload_n 2, 1) := by decide +kernel
theorem d_ST_sheet_8 : decode b_ST_sheet 8 = .ok (.invokestatic 85, 3) := by decide +kernel
theorem d_ST_sheet_11 : decode b_ST_sheet 11 = .ok (.ifCond .ne 13, 3) := by decide +kernel
theorem d_ST_sheet_14 : decode b_ST_sheet 14 = .ok (.new 89, 3) := by decide +kernel
theorem d_ST_sheet_17 : decode b_ST_sheet 17 = .ok (.dup, 1) := by decide +kernel
theorem d_ST_sheet_18 : decode b_ST_sheet 18 = .ok (.ldc 91, 2) := by decide +kernel
theorem d_ST_sheet_20 : decode b_ST_sheet 20 = .ok (.invokespecial 93, 3) := by decide +kernel
theorem d_ST_sheet_23 : decode b_ST_sheet 23 = .ok (.athrow, 1) := by decide +kernel
theorem d_ST_sheet_24 : decode b_ST_sheet 24 = .ok (.iload_n 3, 1) := by decide +kernel
theorem d_ST_sheet_25 : decode b_ST_sheet 25 = .ok (.iconst 1, 1) := by decide +kernel
theorem d_ST_sheet_26 : decode b_ST_sheet 26 = .ok (.sipush 10000, 3) := by decide +kernel
theorem d_ST_sheet_29 : decode b_ST_sheet 29 = .ok (.invokestatic 96, 3) := by decide +kernel
theorem d_ST_sheet_32 : decode b_ST_sheet 32 = .ok (.ifCond .ne 13, 3) := by decide +kernel
theorem d_ST_sheet_35 : decode b_ST_sheet 35 = .ok (.new 89, 3) := by decide +kernel
theorem d_ST_sheet_38 : decode b_ST_sheet 38 = .ok (.dup, 1) := by decide +kernel
theorem d_ST_sheet_39 : decode b_ST_sheet 39 = .ok (.ldc 100, 2) := by decide +kernel
theorem d_ST_sheet_41 : decode b_ST_sheet 41 = .ok (.invokespecial 93, 3) := by decide +kernel
theorem d_ST_sheet_44 : decode b_ST_sheet 44 = .ok (.athrow, 1) := by decide +kernel
theorem d_ST_sheet_45 : decode b_ST_sheet 45 = .ok (.iload 4, 2) := by decide +kernel
theorem d_ST_sheet_47 : decode b_ST_sheet 47 = .ok (.iconst 0, 1) := by decide +kernel
theorem d_ST_sheet_48 : decode b_ST_sheet 48 = .ok (.bipush 20, 2) := by decide +kernel
theorem d_ST_sheet_50 : decode b_ST_sheet 50 = .ok (.invokestatic 96, 3) := by decide +kernel
theorem d_ST_sheet_53 : decode b_ST_sheet 53 = .ok (.ifCond .ne 13, 3) := by decide +kernel
theorem d_ST_sheet_56 : decode b_ST_sheet 56 = .ok (.new 89, 3) := by decide +kernel
theorem d_ST_sheet_59 : decode b_ST_sheet 59 = .ok (.dup, 1) := by decide +kernel
theorem d_ST_sheet_60 : decode b_ST_sheet 60 = .ok (.ldc 102, 2) := by decide +kernel
theorem d_ST_sheet_62 : decode b_ST_sheet 62 = .ok (.invokespecial 93, 3) := by decide +kernel
theorem d_ST_sheet_65 : decode b_ST_sheet 65 = .ok (.athrow, 1) := by decide +kernel
theorem d_ST_sheet_66 : decode b_ST_sheet 66 = .ok (.aload_n 0, 1) := by decide +kernel
theorem d_ST_sheet_67 : decode b_ST_sheet 67 = .ok (.getfield 34, 3) := by decide +kernel
theorem d_ST_sheet_70 : decode b_ST_sheet 70 = .ok (.aload_n 0, 1) := by decide +kernel
theorem d_ST_sheet_71 : decode b_ST_sheet 71 = .ok (.getfield 11, 3) := by decide +kernel
theorem d_ST_sheet_74 : decode b_ST_sheet 74 = .ok (.arraylength, 1) := by decide +kernel
theorem d_ST_sheet_75 : decode b_ST_sheet 75 = .ok (.if_icmp .lt 13, 3) := by decide +kernel
theorem d_ST_sheet_78 : decode b_ST_sheet 78 = .ok (.new 104, 3) := by decide +kernel
theorem d_ST_sheet_81 : decode b_ST_sheet 81 = .ok (.dup, 1) := by decide +kernel
theorem d_ST_sheet_82 : decode b_ST_sheet 82 = .ok (.ldc 106, 2) := by decide +kernel
theorem d_ST_sheet_84 : decode b_ST_sheet 84 = .ok (.invokespecial 108, 3) := by decide +kernel
theorem d_ST_sheet_87 : decode b_ST_sheet 87 = .ok (.athrow, 1) := by decide +kernel
theorem d_ST_sheet_88 : decode b_ST_sheet 88 = .ok (.aload_n 0, 1) := by decide +kernel
theorem d_ST_sheet_89 : decode b_ST_sheet 89 = .ok (.getfield 11, 3) := by decide +kernel
theorem d_ST_sheet_92 : decode b_ST_sheet 92 = .ok (.aload_n 0, 1) := by decide +kernel
theorem d_ST_sheet_93 : decode b_ST_sheet 93 = .ok (.getfield 34, 3) := by decide +kernel
theorem d_ST_sheet_96 : decode b_ST_sheet 96 = .ok (.aaload, 1) := by decide +kernel
theorem d_ST_sheet_97 : decode b_ST_sheet 97 = .ok (.astore 5, 2) := by decide +kernel
theorem d_ST_sheet_99 : decode b_ST_sheet 99 = .ok (.aload 5, 2) := by decide +kernel
theorem d_ST_sheet_101 : decode b_ST_sheet 101 = .ok (.iload_n 1, 1) := by decide +kernel
theorem d_ST_sheet_102 : decode b_ST_sheet 102 = .ok (.putfield 109, 3) := by decide +kernel
theorem d_ST_sheet_105 : decode b_ST_sheet 105 = .ok (.aload 5, 2) := by decide +kernel
theorem d_ST_sheet_107 : decode b_ST_sheet 107 = .ok (.iload_n 2, 1) := by decide +kernel
theorem d_ST_sheet_108 : decode b_ST_sheet 108 = .ok (.putfield 112, 3) := by decide +kernel
theorem d_ST_sheet_111 : decode b_ST_sheet 111 = .ok (.aload 5, 2) := by decide +kernel
theorem d_ST_sheet_113 : decode b_ST_sheet 113 = .ok (.iload_n 3, 1) := by decide +kernel
theorem d_ST_sheet_114 : decode b_ST_sheet 114 = .ok (.putfield 115, 3) := by decide +kernel
theorem d_ST_sheet_117 : decode b_ST_sheet 117 = .ok (.aload 5, 2) := by decide +kernel
theorem d_ST_sheet_119 : decode b_ST_sheet 119 = .ok (.iload 4, 2) := by decide +kernel
theorem d_ST_sheet_121 : decode b_ST_sheet 121 = .ok (.putfield 118, 3) := by decide +kernel
theorem d_ST_sheet_124 : decode b_ST_sheet 124 = .ok (.aload_n 0, 1) := by decide +kernel
theorem d_ST_sheet_125 : decode b_ST_sheet 125 = .ok (.iconst 0, 1) := by decide +kernel
theorem d_ST_sheet_126 : decode b_ST_sheet 126 = .ok (.putfield 50, 3) := by decide +kernel
theorem d_ST_sheet_129 : decode b_ST_sheet 129 = .ok (.aload_n 0, 1) := by decide +kernel
theorem d_ST_sheet_130 : decode b_ST_sheet 130 = .ok (.dup, 1) := by decide +kernel
theorem d_ST_sheet_131 : decode b_ST_sheet 131 = .ok (.getfield 34, 3) := by decide +kernel
theorem d_ST_sheet_134 : decode b_ST_sheet 134 = .ok (.dup_x1, 1) := by decide +kernel
theorem d_ST_sheet_135 : decode b_ST_sheet 135 = .ok (.iconst 1, 1) := by decide +kernel
theorem d_ST_sheet_136 : decode b_ST_sheet 136 = .ok (.iadd, 1) := by decide +kernel
theorem d_ST_sheet_137 : decode b_ST_sheet 137 = .ok (.putfield 34, 3) := by decide +kernel
theorem d_ST_sheet_140 : decode b_ST_sheet 140 = .ok (.ireturn, 1) := by decide +kernel
theorem d_ST_part_0 : decode b_ST_part 0 = .ok (.iload_n 1, 1) := by decide +kernel
theorem d_ST_part_1 : decode b_ST_part 1 = .ok (.invokestatic 85, 3) := by decide +kernel
theorem d_ST_part_4 : decode b_ST_part 4 = .ok (.ifCond .eq 10, 3) := by decide +kernel
theorem d_ST_part_7 : decode b_ST_part 7 = .ok (.iload_n 2, 1) := by decide +kernel
theorem d_ST_part_8 : decode b_ST_part 8 = .ok (.invokestatic 85, 3) := by decide +kernel
theorem d_ST_part_11 : decode b_ST_part 11 = .ok (.ifCond .ne 13, 3) := by decide +kernel
theorem d_ST_part_14 : decode b_ST_part 14 = .ok (.new 89, 3) := by decide +kernel
theorem d_ST_part_17 : decode b_ST_part 17 = .ok (.dup, 1) := by decide +kernel
theorem d_ST_part_18 : decode b_ST_part 18 = .ok (.ldc 91, 2) := by decide +kernel
theorem d_ST_part_20 : decode b_ST_part 20 = .ok (.invokespecial 93, 3) := by decide +kernel
theorem d_ST_part_23 : decode b_ST_part 23 = .ok (.athrow, 1) := by decide +kernel
theorem d_ST_part_24 : decode b_ST_part 24 = .ok (.iload_n 3, 1) := by decide +kernel
theorem d_ST_part_25 : decode b_ST_part 25 = .ok (.iconst 0, 1) := by decide +kernel
theorem d_ST_part_26 : decode b_ST_part 26 = .ok (.bipush 50, 2) := by decide +kernel
theorem d_ST_part_28 : decode b_ST_part 28 = .ok (.invokestatic 96, 3) := by decide +kernel
theorem d_ST_part_31 : decode b_ST_part 31 = .ok (.ifCond .ne 13, 3) := by decide +kernel
theorem d_ST_part_34 : decode b_ST_part 34 = .ok (.new 89, 3) := by decide +kernel
theorem d_ST_part_37 : decode b_ST_part 37 = .ok (.dup, 1) := by decide +kernel
theorem d_ST_part_38 : decode b_ST_part 38 = .ok (.ldc 121, 2) := by decide +kernel
theorem d_ST_part_40 : decode b_ST_part 40 = .ok (.invokespecial 93, 3) := by decide +kernel
theorem d_ST_part_43 : decode b_ST_part 43 = .ok (.athrow, 1) := by decide +kernel
theorem d_ST_part_44 : decode b_ST_part 44 = .ok (.aload_n 0, 1) := by decide +kernel
theorem d_ST_part_45 : decode b_ST_part 45 = .ok (.getfield 38, 3) := by decide +kernel
theorem d_ST_part_48 : decode b_ST_part 48 = .ok (.aload_n 0, 1) := by decide +kernel
theorem d_ST_part_49 : decode b_ST_part 49 = .ok (.getfield 17, 3) := by decide +kernel
theorem d_ST_part_52 : decode b_ST_part 52 = .ok (.arraylength, 1) := by decide +kernel
theorem d_ST_part_53 : decode b_ST_part 53 = .ok (.if_icmp .lt 13, 3) := by decide +kernel
theorem d_ST_part_56 : decode b_ST_part 56 = .ok (.new 104, 3) := by decide +kernel
theorem d_ST_part_59 : decode b_ST_part 59 = .ok (.dup, 1) := by decide +kernel
theorem d_ST_part_60 : decode b_ST_part 60 = .ok (.ldc 123, 2) := by decide +kernel
theorem d_ST_part_62 : decode b_ST_part 62 = .ok (.invokespecial 108, 3) := by decide +kernel
theorem d_ST_part_65 : decode b_ST_part 65 = .ok (.athrow, 1) := by decide +kernel
theorem d_ST_part_66 : decode b_ST_part 66 = .ok (.aload_n 0, 1) := by decide +kernel
theorem d_ST_part_67 : decode b_ST_part 67 = .ok (.getfield 17, 3) := by decide +kernel
theorem d_ST_part_70 : decode b_ST_part 70 = .ok (.aload_n 0, 1) := by decide +kernel
theorem d_ST_part_71 : decode b_ST_part 71 = .ok (.getfield 38, 3) := by decide +kernel
theorem d_ST_part_74 : decode b_ST_part 74 = .ok (.aaload, 1) := by decide +kernel
theorem d_ST_part_75 : decode b_ST_part 75 = .ok (.astore 5, 2) := by decide +kernel
theorem d_ST_part_77 : decode b_ST_part 77 = .ok (.aload 5, 2) := by decide +kernel
theorem d_ST_part_79 : decode b_ST_part 79 = .ok (.iload_n 1, 1) := by decide +kernel
theorem d_ST_part_80 : decode b_ST_part 80 = .ok (.putfield 125, 3) := by decide +kernel
theorem d_ST_part_83 : decode b_ST_part 83 = .ok (.aload 5, 2) := by decide +kernel
theorem d_ST_part_85 : decode b_ST_part 85 = .ok (.iload_n 2, 1) := by decide +kernel
theorem d_ST_part_86 : decode b_ST_part 86 = .ok (.putfield 126, 3) := by decide +kernel
theorem d_ST_part_89 : decode b_ST_part 89 = .ok (.aload 5, 2) := by decide +kernel
theorem d_ST_part_91 : decode b_ST_part 91 = .ok (.iload 4, 2) := by decide +kernel
theorem d_ST_part_93 : decode b_ST_part 93 = .ok (.putfield 127, 3) := by decide +kernel
theorem d_ST_part_96 : decode b_ST_part 96 = .ok (.aload 5, 2) := by decide +kernel
theorem d_ST_part_98 : decode b_ST_part 98 = .ok (.iload_n 3, 1) := by decide +kernel
theorem d_ST_part_99 : decode b_ST_part 99 = .ok (.putfield 130, 3) := by decide +kernel
theorem d_ST_part_102 : decode b_ST_part 102 = .ok (.aload_n 0, 1) := by decide +kernel
theorem d_ST_part_103 : decode b_ST_part 103 = .ok (.iconst 0, 1) := by decide +kernel
theorem d_ST_part_104 : decode b_ST_part 104 = .ok (.putfield 50, 3) := by decide +kernel
theorem d_ST_part_107 : decode b_ST_part 107 = .ok (.aload_n 0, 1) := by decide +kernel
theorem d_ST_part_108 : decode b_ST_part 108 = .ok (.dup, 1) := by decide +kernel
theorem d_ST_part_109 : decode b_ST_part 109 = .ok (.getfield 38, 3) := by decide +kernel
theorem d_ST_part_112 : decode b_ST_part 112 = .ok (.dup_x1, 1) := by decide +kernel
theorem d_ST_part_113 : decode b_ST_part 113 = .ok (.iconst 1, 1) := by decide +kernel
theorem d_ST_part_114 : decode b_ST_part 114 = .ok (.iadd, 1) := by decide +kernel
theorem d_ST_part_115 : decode b_ST_part 115 = .ok (.putfield 38, 3) := by decide +kernel
theorem d_ST_part_118 : decode b_ST_part 118 = .ok (.ireturn, 1) := by decide +kernel
theorem d_ST_count_0 : decode b_ST_count 0 = .ok (.aload_n 0, 1) := by decide +kernel
theorem d_ST_count_1 : decode b_ST_count 1 = .ok (.iload_n 1, 1) := by decide +kernel
theorem d_ST_count_2 : decode b_ST_count 2 = .ok (.invokevirtual 133, 3) := by decide +kernel
theorem d_ST_count_5 : decode b_ST_count 5 = .ok (.astore_n 3, 1) := by decide +kernel
theorem d_ST_count_6 : decode b_ST_count 6 = .ok (.iload_n 2, 1) := by decide +kernel
theorem d_ST_count_7 : decode b_ST_count 7 = .ok (.iconst 0, 1) := by decide +kernel
theorem d_ST_count_8 : decode b_ST_count 8 = .ok (.bipush 50, 2) := by decide +kernel
theorem d_ST_count_10 : decode b_ST_count 10 = .ok (.invokestatic 96, 3) := by decide +kernel
theorem d_ST_count_13 : decode b_ST_count 13 = .ok (.ifCond .ne 13, 3) := by decide +kernel
theorem d_ST_count_16 : decode b_ST_count 16 = .ok (.new 89, 3) := by decide +kernel
theorem d_ST_count_19 : decode b_ST_count 19 = .ok (.dup, 1) := by decide +kernel
theorem d_ST_count_20 : decode b_ST_count 20 = .ok (.ldc 121, 2) := by decide +kernel
theorem d_ST_count_22 : decode b_ST_count 22 = .ok (.invokespecial 93, 3) := by decide +kernel
theorem d_ST_count_25 : decode b_ST_count 25 = .ok (.athrow, 1) := by decide +kernel
theorem d_ST_count_26 : decode b_ST_count 26 = .ok (.aload_n 3, 1) := by decide +kernel
theorem d_ST_count_27 : decode b_ST_count 27 = .ok (.getfield 130, 3) := by decide +kernel
theorem d_ST_count_30 : decode b_ST_count 30 = .ok (.istore 4, 2) := by decide +kernel
theorem d_ST_count_32 : decode b_ST_count 32 = .ok (.aload_n 3, 1) := by decide +kernel
theorem d_ST_count_33 : decode b_ST_count 33 = .ok (.iload_n 2, 1) := by decide +kernel
theorem d_ST_count_34 : decode b_ST_count 34 = .ok (.putfield 130, 3) := by decide +kernel
theorem d_ST_count_37 : decode b_ST_count 37 = .ok (.aload_n 0, 1) := by decide +kernel
theorem d_ST_count_38 : decode b_ST_count 38 = .ok (.iconst 0, 1) := by decide +kernel
theorem d_ST_count_39 : decode b_ST_count 39 = .ok (.putfield 50, 3) := by decide +kernel
theorem d_ST_count_42 : decode b_ST_count 42 = .ok (.iload 4, 2) := by decide +kernel
theorem d_ST_count_44 : decode b_ST_count 44 = .ok (.ireturn, 1) := by decide +kernel
theorem d_ST_worth_0 : decode b_ST_worth 0 = .ok (.iload_n 1, 1) := by decide +kernel
theorem d_ST_worth_1 : decode b_ST_worth 1 = .ok (.invokestatic 85, 3) := by decide +kernel
theorem d_ST_worth_4 : decode b_ST_worth 4 = .ok (.ifCond .eq 10, 3) := by decide +kernel
theorem d_ST_worth_7 : decode b_ST_worth 7 = .ok (.iload_n 2, 1) := by decide +kernel
theorem d_ST_worth_8 : decode b_ST_worth 8 = .ok (.invokestatic 85, 3) := by decide +kernel
theorem d_ST_worth_11 : decode b_ST_worth 11 = .ok (.ifCond .ne 13, 3) := by decide +kernel
theorem d_ST_worth_14 : decode b_ST_worth 14 = .ok (.new 89, 3) := by decide +kernel
theorem d_ST_worth_17 : decode b_ST_worth 17 = .ok (.dup, 1) := by decide +kernel
theorem d_ST_worth_18 : decode b_ST_worth 18 = .ok (.ldc 91, 2) := by decide +kernel
theorem d_ST_worth_20 : decode b_ST_worth 20 = .ok (.invokespecial 93, 3) := by decide +kernel
theorem d_ST_worth_23 : decode b_ST_worth 23 = .ok (.athrow, 1) := by decide +kernel
theorem d_ST_worth_24 : decode b_ST_worth 24 = .ok (.iload_n 3, 1) := by decide +kernel
theorem d_ST_worth_25 : decode b_ST_worth 25 = .ok (.iconst 0, 1) := by decide +kernel
theorem d_ST_worth_26 : decode b_ST_worth 26 = .ok (.iconst 1, 1) := by decide +kernel
theorem d_ST_worth_27 : decode b_ST_worth 27 = .ok (.invokestatic 96, 3) := by decide +kernel
theorem d_ST_worth_30 : decode b_ST_worth 30 = .ok (.ifCond .ne 13, 3) := by decide +kernel
theorem d_ST_worth_33 : decode b_ST_worth 33 = .ok (.new 89, 3) := by decide +kernel
theorem d_ST_worth_36 : decode b_ST_worth 36 = .ok (.dup, 1) := by decide +kernel
theorem d_ST_worth_37 : decode b_ST_worth 37 = .ok (.ldc 137, 2) := by decide +kernel
theorem d_ST_worth_39 : decode b_ST_worth 39 = .ok (.invokespecial 93, 3) := by decide +kernel
theorem d_ST_worth_42 : decode b_ST_worth 42 = .ok (.athrow, 1) := by decide +kernel
theorem d_ST_worth_43 : decode b_ST_worth 43 = .ok (.iload 4, 2) := by decide +kernel
theorem d_ST_worth_45 : decode b_ST_worth 45 = .ok (.iconst 0, 1) := by decide +kernel
theorem d_ST_worth_46 : decode b_ST_worth 46 = .ok (.iconst 3, 1) := by decide +kernel
theorem d_ST_worth_47 : decode b_ST_worth 47 = .ok (.invokestatic 96, 3) := by decide +kernel
theorem d_ST_worth_50 : decode b_ST_worth 50 = .ok (.ifCond .ne 13, 3) := by decide +kernel
theorem d_ST_worth_53 : decode b_ST_worth 53 = .ok (.new 89, 3) := by decide +kernel
theorem d_ST_worth_56 : decode b_ST_worth 56 = .ok (.dup, 1) := by decide +kernel
theorem d_ST_worth_57 : decode b_ST_worth 57 = .ok (.ldc 139, 2) := by decide +kernel
theorem d_ST_worth_59 : decode b_ST_worth 59 = .ok (.invokespecial 93, 3) := by decide +kernel
theorem d_ST_worth_62 : decode b_ST_worth 62 = .ok (.athrow, 1) := by decide +kernel
theorem d_ST_worth_63 : decode b_ST_worth 63 = .ok (.aload_n 0, 1) := by decide +kernel
theorem d_ST_worth_64 : decode b_ST_worth 64 = .ok (.getfield 69, 3) := by decide +kernel
theorem d_ST_worth_67 : decode b_ST_worth 67 = .ok (.aload_n 0, 1) := by decide +kernel
theorem d_ST_worth_68 : decode b_ST_worth 68 = .ok (.getfield 17, 3) := by decide +kernel
theorem d_ST_worth_71 : decode b_ST_worth 71 = .ok (.aload_n 0, 1) := by decide +kernel
theorem d_ST_worth_72 : decode b_ST_worth 72 = .ok (.invokevirtual 141, 3) := by decide +kernel
theorem d_ST_worth_75 : decode b_ST_worth 75 = .ok (.iload 4, 2) := by decide +kernel
theorem d_ST_worth_77 : decode b_ST_worth 77 = .ok (.invokevirtual 145, 3) := by decide +kernel
theorem d_ST_worth_80 : decode b_ST_worth 80 = .ok (.aload_n 0, 1) := by decide +kernel
theorem d_ST_worth_81 : decode b_ST_worth 81 = .ok (.getfield 69, 3) := by decide +kernel
theorem d_ST_worth_84 : decode b_ST_worth 84 = .ok (.iload 4, 2) := by decide +kernel
theorem d_ST_worth_86 : decode b_ST_worth 86 = .ok (.iload_n 3, 1) := by decide +kernel
theorem d_ST_worth_87 : decode b_ST_worth 87 = .ok (.iload_n 1, 1) := by decide +kernel
theorem d_ST_worth_88 : decode b_ST_worth 88 = .ok (.iload_n 2, 1) := by decide +kernel
theorem d_ST_worth_89 : decode b_ST_worth 89 = .ok (.invokevirtual 149, 3) := by decide +kernel
theorem d_ST_worth_92 : decode b_ST_worth 92 = .ok (.ireturn, 1) := by decide +kernel
theorem d_ST_run_0 : decode b_ST_run 0 = .ok (.aload_n 0, 1) := by decide +kernel
theorem d_ST_run_1 : decode b_ST_run 1 = .ok (.invokevirtual 153, 3) := by decide +kernel
theorem d_ST_run_4 : decode b_ST_run 4 = .ok (.iconst 0, 1) := by decide +kernel
theorem d_ST_run_5 : decode b_ST_run 5 = .ok (.istore_n 1, 1) := by decide +kernel
theorem d_ST_run_6 : decode b_ST_run 6 = .ok (.iload_n 1, 1) := by decide +kernel
theorem d_ST_run_7 : decode b_ST_run 7 = .ok (.bipush 20, 2) := by decide +kernel
theorem d_ST_run_9 : decode b_ST_run 9 = .ok (.if_icmp .ge 46, 3) := by decide +kernel
theorem d_ST_run_12 : decode b_ST_run 12 = .ok (.aload_n 0, 1) := by decide +kernel
theorem d_ST_run_13 : decode b_ST_run 13 = .ok (.getfield 69, 3) := by decide +kernel
theorem d_ST_run_16 : decode b_ST_run 16 = .ok (.aload_n 0, 1) := by decide +kernel
theorem d_ST_run_17 : decode b_ST_run 17 = .ok (.getfield 17, 3) := by decide +kernel
theorem d_ST_run_20 : decode b_ST_run 20 = .ok (.aload_n 0, 1) := by decide +kernel
theorem d_ST_run_21 : decode b_ST_run 21 = .ok (.invokevirtual 156, 3) := by decide +kernel
theorem d_ST_run_24 : decode b_ST_run 24 = .ok (.aload_n 0, 1) := by decide +kernel
theorem d_ST_run_25 : decode b_ST_run 25 = .ok (.getfield 58, 3) := by decide +kernel
theorem d_ST_run_28 : decode b_ST_run 28 = .ok (.invokevirtual 145, 3) := by decide +kernel
theorem d_ST_run_31 : decode b_ST_run 31 = .ok (.aload_n 0, 1) := by decide +kernel
theorem d_ST_run_32 : decode b_ST_run 32 = .ok (.invokevirtual 159, 3) := by decide +kernel
theorem d_ST_run_35 : decode b_ST_run 35 = .ok (.istore_n 2, 1) := by decide +kernel
theorem d_ST_run_36 : decode b_ST_run 36 = .ok (.iload_n 2, 1) := by decide +kernel
theorem d_ST_run_37 : decode b_ST_run 37 = .ok (.iconst (-1), 1) := by decide +kernel
theorem d_ST_run_38 : decode b_ST_run 38 = .ok (.if_icmp .ne 6, 3) := by decide +kernel
theorem d_ST_run_41 : decode b_ST_run 41 = .ok (.goto 14, 3) := by decide +kernel
theorem d_ST_run_44 : decode b_ST_run 44 = .ok (.aload_n 0, 1) := by decide +kernel
theorem d_ST_run_45 : decode b_ST_run 45 = .ok (.iload_n 2, 1) := by decide +kernel
theorem d_ST_run_46 : decode b_ST_run 46 = .ok (.invokevirtual 162, 3) := by decide +kernel
theorem d_ST_run_49 : decode b_ST_run 49 = .ok (.iinc 1 1, 3) := by decide +kernel
theorem d_ST_run_52 : decode b_ST_run 52 = .ok (.goto (-46), 3) := by decide +kernel
theorem d_ST_run_55 : decode b_ST_run 55 = .ok (.aload_n 0, 1) := by decide +kernel
theorem d_ST_run_56 : decode b_ST_run 56 = .ok (.iconst 1, 1) := by decide +kernel
theorem d_ST_run_57 : decode b_ST_run 57 = .ok (.putfield 50, 3) := by decide +kernel
theorem d_ST_run_60 : decode b_ST_run 60 = .ok (.aload_n 0, 1) := by decide +kernel
theorem d_ST_run_61 : decode b_ST_run 61 = .ok (.getfield 41, 3) := by decide +kernel
theorem d_ST_run_64 : decode b_ST_run 64 = .ok (.ireturn, 1) := by decide +kernel
theorem d_ST_cut_0 : decode b_ST_cut 0 = .ok (.aload_n 0, 1) := by decide +kernel
theorem d_ST_cut_1 : decode b_ST_cut 1 = .ok (.iload_n 1, 1) := by decide +kernel
theorem d_ST_cut_2 : decode b_ST_cut 2 = .ok (.invokevirtual 165, 3) := by decide +kernel
theorem d_ST_cut_5 : decode b_ST_cut 5 = .ok (.astore_n 3, 1) := by decide +kernel
theorem d_ST_cut_6 : decode b_ST_cut 6 = .ok (.iload_n 2, 1) := by decide +kernel
theorem d_ST_cut_7 : decode b_ST_cut 7 = .ok (.tableswitch 85 0 7 #[45, 50, 55, 60, 65, 70, 75, 80], 45) := by decide +kernel
theorem d_ST_cut_52 : decode b_ST_cut 52 = .ok (.aload_n 3, 1) := by decide +kernel
theorem d_ST_cut_53 : decode b_ST_cut 53 = .ok (.getfield 169, 3) := by decide +kernel
theorem d_ST_cut_56 : decode b_ST_cut 56 = .ok (.ireturn, 1) := by decide +kernel
theorem d_ST_cut_57 : decode b_ST_cut 57 = .ok (.aload_n 3, 1) := by decide +kernel
theorem d_ST_cut_58 : decode b_ST_cut 58 = .ok (.getfield 172, 3) := by decide +kernel
theorem d_ST_cut_61 : decode b_ST_cut 61 = .ok (.ireturn, 1) := by decide +kernel
theorem d_ST_cut_62 : decode b_ST_cut 62 = .ok (.aload_n 3, 1) := by decide +kernel
theorem d_ST_cut_63 : decode b_ST_cut 63 = .ok (.getfield 173, 3) := by decide +kernel
theorem d_ST_cut_66 : decode b_ST_cut 66 = .ok (.ireturn, 1) := by decide +kernel
theorem d_ST_cut_67 : decode b_ST_cut 67 = .ok (.aload_n 3, 1) := by decide +kernel
theorem d_ST_cut_68 : decode b_ST_cut 68 = .ok (.getfield 176, 3) := by decide +kernel
theorem d_ST_cut_71 : decode b_ST_cut 71 = .ok (.ireturn, 1) := by decide +kernel
theorem d_ST_cut_72 : decode b_ST_cut 72 = .ok (.aload_n 3, 1) := by decide +kernel
theorem d_ST_cut_73 : decode b_ST_cut 73 = .ok (.getfield 179, 3) := by decide +kernel
theorem d_ST_cut_76 : decode b_ST_cut 76 = .ok (.ireturn, 1) := by decide +kernel
theorem d_ST_cut_77 : decode b_ST_cut 77 = .ok (.aload_n 3, 1) := by decide +kernel
theorem d_ST_cut_78 : decode b_ST_cut 78 = .ok (.getfield 182, 3) := by decide +kernel
theorem d_ST_cut_81 : decode b_ST_cut 81 = .ok (.ireturn, 1) := by decide +kernel
theorem d_ST_cut_82 : decode b_ST_cut 82 = .ok (.aload_n 3, 1) := by decide +kernel
theorem d_ST_cut_83 : decode b_ST_cut 83 = .ok (.getfield 185, 3) := by decide +kernel
theorem d_ST_cut_86 : decode b_ST_cut 86 = .ok (.ireturn, 1) := by decide +kernel
theorem d_ST_cut_87 : decode b_ST_cut 87 = .ok (.aload_n 3, 1) := by decide +kernel
theorem d_ST_cut_88 : decode b_ST_cut 88 = .ok (.getfield 186, 3) := by decide +kernel
theorem d_ST_cut_91 : decode b_ST_cut 91 = .ok (.ireturn, 1) := by decide +kernel
theorem d_ST_cut_92 : decode b_ST_cut 92 = .ok (.new 189, 3) := by decide +kernel
theorem d_ST_cut_95 : decode b_ST_cut 95 = .ok (.dup, 1) := by decide +kernel
theorem d_ST_cut_96 : decode b_ST_cut 96 = .ok (.ldc 191, 2) := by decide +kernel
theorem d_ST_cut_98 : decode b_ST_cut 98 = .ok (.invokespecial 193, 3) := by decide +kernel
theorem d_ST_cut_101 : decode b_ST_cut 101 = .ok (.athrow, 1) := by decide +kernel
theorem d_ST_taken_0 : decode b_ST_taken 0 = .ok (.aload_n 0, 1) := by decide +kernel
theorem d_ST_taken_1 : decode b_ST_taken 1 = .ok (.iload_n 1, 1) := by decide +kernel
theorem d_ST_taken_2 : decode b_ST_taken 2 = .ok (.invokevirtual 165, 3) := by decide +kernel
theorem d_ST_taken_5 : decode b_ST_taken 5 = .ok (.astore 4, 2) := by decide +kernel
theorem d_ST_taken_7 : decode b_ST_taken 7 = .ok (.iload_n 2, 1) := by decide +kernel
theorem d_ST_taken_8 : decode b_ST_taken 8 = .ok (.iconst 0, 1) := by decide +kernel
theorem d_ST_taken_9 : decode b_ST_taken 9 = .ok (.aload 4, 2) := by decide +kernel
theorem d_ST_taken_11 : decode b_ST_taken 11 = .ok (.getfield 172, 3) := by decide +kernel
theorem d_ST_taken_14 : decode b_ST_taken 14 = .ok (.iconst 1, 1) := by decide +kernel
theorem d_ST_taken_15 : decode b_ST_taken 15 = .ok (.isub, 1) := by decide +kernel
theorem d_ST_taken_16 : decode b_ST_taken 16 = .ok (.invokestatic 96, 3) := by decide +kernel
theorem d_ST_taken_19 : decode b_ST_taken 19 = .ok (.ifCond .ne 13, 3) := by decide +kernel
theorem d_ST_taken_22 : decode b_ST_taken 22 = .ok (.new 189, 3) := by decide +kernel
theorem d_ST_taken_25 : decode b_ST_taken 25 = .ok (.dup, 1) := by decide +kernel
theorem d_ST_taken_26 : decode b_ST_taken 26 = .ok (.ldc 194, 2) := by decide +kernel
theorem d_ST_taken_28 : decode b_ST_taken 28 = .ok (.invokespecial 193, 3) := by decide +kernel
theorem d_ST_taken_31 : decode b_ST_taken 31 = .ok (.athrow, 1) := by decide +kernel
theorem d_ST_taken_32 : decode b_ST_taken 32 = .ok (.iload_n 3, 1) := by decide +kernel
theorem d_ST_taken_33 : decode b_ST_taken 33 = .ok (.iconst 0, 1) := by decide +kernel
theorem d_ST_taken_34 : decode b_ST_taken 34 = .ok (.iconst 4, 1) := by decide +kernel
theorem d_ST_taken_35 : decode b_ST_taken 35 = .ok (.invokestatic 96, 3) := by decide +kernel
theorem d_ST_taken_38 : decode b_ST_taken 38 = .ok (.ifCond .ne 13, 3) := by decide +kernel
theorem d_ST_taken_41 : decode b_ST_taken 41 = .ok (.new 189, 3) := by decide +kernel
theorem d_ST_taken_44 : decode b_ST_taken 44 = .ok (.dup, 1) := by decide +kernel
theorem d_ST_taken_45 : decode b_ST_taken 45 = .ok (.ldc 196, 2) := by decide +kernel
theorem d_ST_taken_47 : decode b_ST_taken 47 = .ok (.invokespecial 193, 3) := by decide +kernel
theorem d_ST_taken_50 : decode b_ST_taken 50 = .ok (.athrow, 1) := by decide +kernel
theorem d_ST_taken_51 : decode b_ST_taken 51 = .ok (.aload_n 0, 1) := by decide +kernel
theorem d_ST_taken_52 : decode b_ST_taken 52 = .ok (.getfield 27, 3) := by decide +kernel
theorem d_ST_taken_55 : decode b_ST_taken 55 = .ok (.aload 4, 2) := by decide +kernel
theorem d_ST_taken_57 : decode b_ST_taken 57 = .ok (.getfield 198, 3) := by decide +kernel
theorem d_ST_taken_60 : decode b_ST_taken 60 = .ok (.iload_n 2, 1) := by decide +kernel
theorem d_ST_taken_61 : decode b_ST_taken 61 = .ok (.iadd, 1) := by decide +kernel
theorem d_ST_taken_62 : decode b_ST_taken 62 = .ok (.invokestatic 201, 3) := by decide +kernel
theorem d_ST_taken_65 : decode b_ST_taken 65 = .ok (.iload_n 3, 1) := by decide +kernel
theorem d_ST_taken_66 : decode b_ST_taken 66 = .ok (.invokestatic 205, 3) := by decide +kernel
theorem d_ST_taken_69 : decode b_ST_taken 69 = .ok (.ireturn, 1) := by decide +kernel
theorem d_ST_rest_0 : decode b_ST_rest 0 = .ok (.aload_n 0, 1) := by decide +kernel
theorem d_ST_rest_1 : decode b_ST_rest 1 = .ok (.iload_n 1, 1) := by decide +kernel
theorem d_ST_rest_2 : decode b_ST_rest 2 = .ok (.invokevirtual 165, 3) := by decide +kernel
theorem d_ST_rest_5 : decode b_ST_rest 5 = .ok (.astore 4, 2) := by decide +kernel
theorem d_ST_rest_7 : decode b_ST_rest 7 = .ok (.iload_n 2, 1) := by decide +kernel
theorem d_ST_rest_8 : decode b_ST_rest 8 = .ok (.iconst 0, 1) := by decide +kernel
theorem d_ST_rest_9 : decode b_ST_rest 9 = .ok (.aload 4, 2) := by decide +kernel
theorem d_ST_rest_11 : decode b_ST_rest 11 = .ok (.getfield 185, 3) := by decide +kernel
theorem d_ST_rest_14 : decode b_ST_rest 14 = .ok (.iconst 1, 1) := by decide +kernel
theorem d_ST_rest_15 : decode b_ST_rest 15 = .ok (.isub, 1) := by decide +kernel
theorem d_ST_rest_16 : decode b_ST_rest 16 = .ok (.invokestatic 96, 3) := by decide +kernel
theorem d_ST_rest_19 : decode b_ST_rest 19 = .ok (.ifCond .ne 13, 3) := by decide +kernel
theorem d_ST_rest_22 : decode b_ST_rest 22 = .ok (.new 189, 3) := by decide +kernel
theorem d_ST_rest_25 : decode b_ST_rest 25 = .ok (.dup, 1) := by decide +kernel
theorem d_ST_rest_26 : decode b_ST_rest 26 = .ok (.ldc 211, 2) := by decide +kernel
theorem d_ST_rest_28 : decode b_ST_rest 28 = .ok (.invokespecial 193, 3) := by decide +kernel
theorem d_ST_rest_31 : decode b_ST_rest 31 = .ok (.athrow, 1) := by decide +kernel
theorem d_ST_rest_32 : decode b_ST_rest 32 = .ok (.iload_n 3, 1) := by decide +kernel
theorem d_ST_rest_33 : decode b_ST_rest 33 = .ok (.iconst 0, 1) := by decide +kernel
theorem d_ST_rest_34 : decode b_ST_rest 34 = .ok (.iconst 3, 1) := by decide +kernel
theorem d_ST_rest_35 : decode b_ST_rest 35 = .ok (.invokestatic 96, 3) := by decide +kernel
theorem d_ST_rest_38 : decode b_ST_rest 38 = .ok (.ifCond .ne 13, 3) := by decide +kernel
theorem d_ST_rest_41 : decode b_ST_rest 41 = .ok (.new 189, 3) := by decide +kernel
theorem d_ST_rest_44 : decode b_ST_rest 44 = .ok (.dup, 1) := by decide +kernel
theorem d_ST_rest_45 : decode b_ST_rest 45 = .ok (.ldc 213, 2) := by decide +kernel
theorem d_ST_rest_47 : decode b_ST_rest 47 = .ok (.invokespecial 193, 3) := by decide +kernel
theorem d_ST_rest_50 : decode b_ST_rest 50 = .ok (.athrow, 1) := by decide +kernel
theorem d_ST_rest_51 : decode b_ST_rest 51 = .ok (.aload_n 0, 1) := by decide +kernel
theorem d_ST_rest_52 : decode b_ST_rest 52 = .ok (.getfield 31, 3) := by decide +kernel
theorem d_ST_rest_55 : decode b_ST_rest 55 = .ok (.aload 4, 2) := by decide +kernel
theorem d_ST_rest_57 : decode b_ST_rest 57 = .ok (.getfield 215, 3) := by decide +kernel
theorem d_ST_rest_60 : decode b_ST_rest 60 = .ok (.iload_n 2, 1) := by decide +kernel
theorem d_ST_rest_61 : decode b_ST_rest 61 = .ok (.iadd, 1) := by decide +kernel
theorem d_ST_rest_62 : decode b_ST_rest 62 = .ok (.invokestatic 201, 3) := by decide +kernel
theorem d_ST_rest_65 : decode b_ST_rest 65 = .ok (.iconst 1, 1) := by decide +kernel
theorem d_ST_rest_66 : decode b_ST_rest 66 = .ok (.iload_n 3, 1) := by decide +kernel
theorem d_ST_rest_67 : decode b_ST_rest 67 = .ok (.iadd, 1) := by decide +kernel
theorem d_ST_rest_68 : decode b_ST_rest 68 = .ok (.invokestatic 205, 3) := by decide +kernel
theorem d_ST_rest_71 : decode b_ST_rest 71 = .ok (.ireturn, 1) := by decide +kernel
theorem d_ST_left_0 : decode b_ST_left 0 = .ok (.aload_n 0, 1) := by decide +kernel
theorem d_ST_left_1 : decode b_ST_left 1 = .ok (.invokevirtual 218, 3) := by decide +kernel
theorem d_ST_left_4 : decode b_ST_left 4 = .ok (.aload_n 0, 1) := by decide +kernel
theorem d_ST_left_5 : decode b_ST_left 5 = .ok (.iload_n 1, 1) := by decide +kernel
theorem d_ST_left_6 : decode b_ST_left 6 = .ok (.invokevirtual 133, 3) := by decide +kernel
theorem d_ST_left_9 : decode b_ST_left 9 = .ok (.getfield 221, 3) := by decide +kernel
theorem d_ST_left_12 : decode b_ST_left 12 = .ok (.ireturn, 1) := by decide +kernel
theorem d_ST_all_0 : decode b_ST_all 0 = .ok (.aload_n 0, 1) := by decide +kernel
theorem d_ST_all_1 : decode b_ST_all 1 = .ok (.invokevirtual 218, 3) := by decide +kernel
theorem d_ST_all_4 : decode b_ST_all 4 = .ok (.iload_n 1, 1) := by decide +kernel
theorem d_ST_all_5 : decode b_ST_all 5 = .ok (.iconst 0, 1) := by decide +kernel
theorem d_ST_all_6 : decode b_ST_all 6 = .ok (.iconst 2, 1) := by decide +kernel
theorem d_ST_all_7 : decode b_ST_all 7 = .ok (.invokestatic 96, 3) := by decide +kernel
theorem d_ST_all_10 : decode b_ST_all 10 = .ok (.ifCond .ne 13, 3) := by decide +kernel
theorem d_ST_all_13 : decode b_ST_all 13 = .ok (.new 189, 3) := by decide +kernel
theorem d_ST_all_16 : decode b_ST_all 16 = .ok (.dup, 1) := by decide +kernel
theorem d_ST_all_17 : decode b_ST_all 17 = .ok (.ldc 224, 2) := by decide +kernel
theorem d_ST_all_19 : decode b_ST_all 19 = .ok (.invokespecial 193, 3) := by decide +kernel
theorem d_ST_all_22 : decode b_ST_all 22 = .ok (.athrow, 1) := by decide +kernel
theorem d_ST_all_23 : decode b_ST_all 23 = .ok (.lconst 0, 1) := by decide +kernel
theorem d_ST_all_24 : decode b_ST_all 24 = .ok (.lstore_n 2, 1) := by decide +kernel
theorem d_ST_all_25 : decode b_ST_all 25 = .ok (.iconst 0, 1) := by decide +kernel
theorem d_ST_all_26 : decode b_ST_all 26 = .ok (.istore 4, 2) := by decide +kernel
theorem d_ST_all_28 : decode b_ST_all 28 = .ok (.iload 4, 2) := by decide +kernel
theorem d_ST_all_30 : decode b_ST_all 30 = .ok (.aload_n 0, 1) := by decide +kernel
theorem d_ST_all_31 : decode b_ST_all 31 = .ok (.getfield 41, 3) := by decide +kernel
theorem d_ST_all_34 : decode b_ST_all 34 = .ok (.if_icmp .ge 64, 3) := by decide +kernel
theorem d_ST_all_37 : decode b_ST_all 37 = .ok (.iload 4, 2) := by decide +kernel
theorem d_ST_all_39 : decode b_ST_all 39 = .ok (.aload_n 0, 1) := by decide +kernel
theorem d_ST_all_40 : decode b_ST_all 40 = .ok (.getfield 23, 3) := by decide +kernel
theorem d_ST_all_43 : decode b_ST_all 43 = .ok (.arraylength, 1) := by decide +kernel
theorem d_ST_all_44 : decode b_ST_all 44 = .ok (.if_icmp .ge 54, 3) := by decide +kernel
theorem d_ST_all_47 : decode b_ST_all 47 = .ok (.aload_n 0, 1) := by decide +kernel
theorem d_ST_all_48 : decode b_ST_all 48 = .ok (.getfield 23, 3) := by decide +kernel
theorem d_ST_all_51 : decode b_ST_all 51 = .ok (.iload 4, 2) := by decide +kernel
theorem d_ST_all_53 : decode b_ST_all 53 = .ok (.aaload, 1) := by decide +kernel
theorem d_ST_all_54 : decode b_ST_all 54 = .ok (.astore 5, 2) := by decide +kernel
theorem d_ST_all_56 : decode b_ST_all 56 = .ok (.lload_n 2, 1) := by decide +kernel
theorem d_ST_all_57 : decode b_ST_all 57 = .ok (.iload_n 1, 1) := by decide +kernel
theorem d_ST_all_58 : decode b_ST_all 58 = .ok (.ifCond .ne 12, 3) := by decide +kernel
theorem d_ST_all_61 : decode b_ST_all 61 = .ok (.aload 5, 2) := by decide +kernel
theorem d_ST_all_63 : decode b_ST_all 63 = .ok (.getfield 226, 3) := by decide +kernel
theorem d_ST_all_66 : decode b_ST_all 66 = .ok (.i2l, 1) := by decide +kernel
theorem d_ST_all_67 : decode b_ST_all 67 = .ok (.goto 23, 3) := by decide +kernel
theorem d_ST_all_70 : decode b_ST_all 70 = .ok (.iload_n 1, 1) := by decide +kernel
theorem d_ST_all_71 : decode b_ST_all 71 = .ok (.iconst 1, 1) := by decide +kernel
theorem d_ST_all_72 : decode b_ST_all 72 = .ok (.if_icmp .ne 12, 3) := by decide +kernel
theorem d_ST_all_75 : decode b_ST_all 75 = .ok (.aload 5, 2) := by decide +kernel
theorem d_ST_all_77 : decode b_ST_all 77 = .ok (.getfield 227, 3) := by decide +kernel
theorem d_ST_all_80 : decode b_ST_all 80 = .ok (.i2l, 1) := by decide +kernel
theorem d_ST_all_81 : decode b_ST_all 81 = .ok (.goto 9, 3) := by decide +kernel
theorem d_ST_all_84 : decode b_ST_all 84 = .ok (.aload 5, 2) := by decide +kernel
theorem d_ST_all_86 : decode b_ST_all 86 = .ok (.getfield 173, 3) := by decide +kernel
theorem d_ST_all_89 : decode b_ST_all 89 = .ok (.i2l, 1) := by decide +kernel
theorem d_ST_all_90 : decode b_ST_all 90 = .ok (.ladd, 1) := by decide +kernel
theorem d_ST_all_91 : decode b_ST_all 91 = .ok (.lstore_n 2, 1) := by decide +kernel
theorem d_ST_all_92 : decode b_ST_all 92 = .ok (.iinc 4 1, 3) := by decide +kernel
theorem d_ST_all_95 : decode b_ST_all 95 = .ok (.goto (-67), 3) := by decide +kernel
theorem d_ST_all_98 : decode b_ST_all 98 = .ok (.lload_n 2, 1) := by decide +kernel
theorem d_ST_all_99 : decode b_ST_all 99 = .ok (.lreturn, 1) := by decide +kernel
theorem d_ST_bound_0 : decode b_ST_bound 0 = .ok (.iconst 0, 1) := by decide +kernel
theorem d_ST_bound_1 : decode b_ST_bound 1 = .ok (.istore_n 1, 1) := by decide +kernel
theorem d_ST_bound_2 : decode b_ST_bound 2 = .ok (.iconst 0, 1) := by decide +kernel
theorem d_ST_bound_3 : decode b_ST_bound 3 = .ok (.istore_n 2, 1) := by decide +kernel
theorem d_ST_bound_4 : decode b_ST_bound 4 = .ok (.iload_n 2, 1) := by decide +kernel
theorem d_ST_bound_5 : decode b_ST_bound 5 = .ok (.aload_n 0, 1) := by decide +kernel
theorem d_ST_bound_6 : decode b_ST_bound 6 = .ok (.getfield 34, 3) := by decide +kernel
theorem d_ST_bound_9 : decode b_ST_bound 9 = .ok (.if_icmp .ge 32, 3) := by decide +kernel
theorem d_ST_bound_12 : decode b_ST_bound 12 = .ok (.iload_n 2, 1) := by decide +kernel
theorem d_ST_bound_13 : decode b_ST_bound 13 = .ok (.aload_n 0, 1) := by decide +kernel
theorem d_ST_bound_14 : decode b_ST_bound 14 = .ok (.getfield 11, 3) := by decide +kernel
theorem d_ST_bound_17 : decode b_ST_bound 17 = .ok (.arraylength, 1) := by decide +kernel
theorem d_ST_bound_18 : decode b_ST_bound 18 = .ok (.if_icmp .ge 23, 3) := by decide +kernel
theorem d_ST_bound_21 : decode b_ST_bound 21 = .ok (.iload_n 1, 1) := by decide +kernel
theorem d_ST_bound_22 : decode b_ST_bound 22 = .ok (.aload_n 0, 1) := by decide +kernel
theorem d_ST_bound_23 : decode b_ST_bound 23 = .ok (.getfield 11, 3) := by decide +kernel
theorem d_ST_bound_26 : decode b_ST_bound 26 = .ok (.iload_n 2, 1) := by decide +kernel
theorem d_ST_bound_27 : decode b_ST_bound 27 = .ok (.aaload, 1) := by decide +kernel
theorem d_ST_bound_28 : decode b_ST_bound 28 = .ok (.invokevirtual 230, 3) := by decide +kernel
theorem d_ST_bound_31 : decode b_ST_bound 31 = .ok (.invokestatic 232, 3) := by decide +kernel
theorem d_ST_bound_34 : decode b_ST_bound 34 = .ok (.istore_n 1, 1) := by decide +kernel
theorem d_ST_bound_35 : decode b_ST_bound 35 = .ok (.iinc 2 1, 3) := by decide +kernel
theorem d_ST_bound_38 : decode b_ST_bound 38 = .ok (.goto (-34), 3) := by decide +kernel
theorem d_ST_bound_41 : decode b_ST_bound 41 = .ok (.iload_n 1, 1) := by decide +kernel
theorem d_ST_bound_42 : decode b_ST_bound 42 = .ok (.iconst 1, 1) := by decide +kernel
theorem d_ST_bound_43 : decode b_ST_bound 43 = .ok (.if_icmp .ge 5, 3) := by decide +kernel
theorem d_ST_bound_46 : decode b_ST_bound 46 = .ok (.iconst 0, 1) := by decide +kernel
theorem d_ST_bound_47 : decode b_ST_bound 47 = .ok (.ireturn, 1) := by decide +kernel
theorem d_ST_bound_48 : decode b_ST_bound 48 = .ok (.iconst 0, 1) := by decide +kernel
theorem d_ST_bound_49 : decode b_ST_bound 49 = .ok (.istore_n 2, 1) := by decide +kernel
theorem d_ST_bound_50 : decode b_ST_bound 50 = .ok (.iconst 0, 1) := by decide +kernel
theorem d_ST_bound_51 : decode b_ST_bound 51 = .ok (.istore_n 3, 1) := by decide +kernel
theorem d_ST_bound_52 : decode b_ST_bound 52 = .ok (.iload_n 3, 1) := by decide +kernel
theorem d_ST_bound_53 : decode b_ST_bound 53 = .ok (.aload_n 0, 1) := by decide +kernel
theorem d_ST_bound_54 : decode b_ST_bound 54 = .ok (.getfield 38, 3) := by decide +kernel
theorem d_ST_bound_57 : decode b_ST_bound 57 = .ok (.if_icmp .ge 40, 3) := by decide +kernel
theorem d_ST_bound_60 : decode b_ST_bound 60 = .ok (.iload_n 3, 1) := by decide +kernel
theorem d_ST_bound_61 : decode b_ST_bound 61 = .ok (.aload_n 0, 1) := by decide +kernel
theorem d_ST_bound_62 : decode b_ST_bound 62 = .ok (.getfield 17, 3) := by decide +kernel
theorem d_ST_bound_65 : decode b_ST_bound 65 = .ok (.arraylength, 1) := by decide +kernel
theorem d_ST_bound_66 : decode b_ST_bound 66 = .ok (.if_icmp .ge 31, 3) := by decide +kernel
theorem d_ST_bound_69 : decode b_ST_bound 69 = .ok (.iload_n 2, 1) := by decide +kernel
theorem d_ST_bound_70 : decode b_ST_bound 70 = .ok (.aload_n 0, 1) := by decide +kernel
theorem d_ST_bound_71 : decode b_ST_bound 71 = .ok (.getfield 17, 3) := by decide +kernel
theorem d_ST_bound_74 : decode b_ST_bound 74 = .ok (.iload_n 3, 1) := by decide +kernel
theorem d_ST_bound_75 : decode b_ST_bound 75 = .ok (.aaload, 1) := by decide +kernel
theorem d_ST_bound_76 : decode b_ST_bound 76 = .ok (.invokevirtual 237, 3) := by decide +kernel
theorem d_ST_bound_79 : decode b_ST_bound 79 = .ok (.aload_n 0, 1) := by decide +kernel
theorem d_ST_bound_80 : decode b_ST_bound 80 = .ok (.getfield 17, 3) := by decide +kernel
theorem d_ST_bound_83 : decode b_ST_bound 83 = .ok (.iload_n 3, 1) := by decide +kernel
theorem d_ST_bound_84 : decode b_ST_bound 84 = .ok (.aaload, 1) := by decide +kernel
theorem d_ST_bound_85 : decode b_ST_bound 85 = .ok (.getfield 130, 3) := by decide +kernel
theorem d_ST_bound_88 : decode b_ST_bound 88 = .ok (.imul, 1) := by decide +kernel
theorem d_ST_bound_89 : decode b_ST_bound 89 = .ok (.iadd, 1) := by decide +kernel
theorem d_ST_bound_90 : decode b_ST_bound 90 = .ok (.istore_n 2, 1) := by decide +kernel
theorem d_ST_bound_91 : decode b_ST_bound 91 = .ok (.iinc 3 1, 3) := by decide +kernel
theorem d_ST_bound_94 : decode b_ST_bound 94 = .ok (.goto (-42), 3) := by decide +kernel
theorem d_ST_bound_97 : decode b_ST_bound 97 = .ok (.iload_n 2, 1) := by decide +kernel
theorem d_ST_bound_98 : decode b_ST_bound 98 = .ok (.iload_n 1, 1) := by decide +kernel
theorem d_ST_bound_99 : decode b_ST_bound 99 = .ok (.iadd, 1) := by decide +kernel
theorem d_ST_bound_100 : decode b_ST_bound 100 = .ok (.iconst 1, 1) := by decide +kernel
theorem d_ST_bound_101 : decode b_ST_bound 101 = .ok (.isub, 1) := by decide +kernel
theorem d_ST_bound_102 : decode b_ST_bound 102 = .ok (.iload_n 1, 1) := by decide +kernel
theorem d_ST_bound_103 : decode b_ST_bound 103 = .ok (.idiv, 1) := by decide +kernel
theorem d_ST_bound_104 : decode b_ST_bound 104 = .ok (.ireturn, 1) := by decide +kernel
theorem d_ST_nearest_0 : decode b_ST_nearest 0 = .ok (.iload_n 1, 1) := by decide +kernel
theorem d_ST_nearest_1 : decode b_ST_nearest 1 = .ok (.iload_n 2, 1) := by decide +kernel
theorem d_ST_nearest_2 : decode b_ST_nearest 2 = .ok (.iload_n 0, 1) := by decide +kernel
theorem d_ST_nearest_3 : decode b_ST_nearest 3 = .ok (.invokestatic 238, 3) := by decide +kernel
theorem d_ST_nearest_6 : decode b_ST_nearest 6 = .ok (.invokestatic 232, 3) := by decide +kernel
theorem d_ST_nearest_9 : decode b_ST_nearest 9 = .ok (.ireturn, 1) := by decide +kernel
theorem d_ST_isWithin_0 : decode b_ST_isWithin 0 = .ok (.iload_n 0, 1) := by decide +kernel
theorem d_ST_isWithin_1 : decode b_ST_isWithin 1 = .ok (.iload_n 1, 1) := by decide +kernel
theorem d_ST_isWithin_2 : decode b_ST_isWithin 2 = .ok (.if_icmp .lt 12, 3) := by decide +kernel
theorem d_ST_isWithin_5 : decode b_ST_isWithin 5 = .ok (.iload_n 0, 1) := by decide +kernel
theorem d_ST_isWithin_6 : decode b_ST_isWithin 6 = .ok (.iload_n 2, 1) := by decide +kernel
theorem d_ST_isWithin_7 : decode b_ST_isWithin 7 = .ok (.if_icmp .gt 7, 3) := by decide +kernel
theorem d_ST_isWithin_10 : decode b_ST_isWithin 10 = .ok (.iconst 1, 1) := by decide +kernel
theorem d_ST_isWithin_11 : decode b_ST_isWithin 11 = .ok (.goto 4, 3) := by decide +kernel
theorem d_ST_isWithin_14 : decode b_ST_isWithin 14 = .ok (.iconst 0, 1) := by decide +kernel
theorem d_ST_isWithin_15 : decode b_ST_isWithin 15 = .ok (.ireturn, 1) := by decide +kernel
theorem d_ST_isSide_0 : decode b_ST_isSide 0 = .ok (.iload_n 0, 1) := by decide +kernel
theorem d_ST_isSide_1 : decode b_ST_isSide 1 = .ok (.iconst 1, 1) := by decide +kernel
theorem d_ST_isSide_2 : decode b_ST_isSide 2 = .ok (.bipush 16, 2) := by decide +kernel
theorem d_ST_isSide_4 : decode b_ST_isSide 4 = .ok (.invokestatic 96, 3) := by decide +kernel
theorem d_ST_isSide_7 : decode b_ST_isSide 7 = .ok (.ireturn, 1) := by decide +kernel
theorem d_ST_pieceAt_0 : decode b_ST_pieceAt 0 = .ok (.iload_n 1, 1) := by decide +kernel
theorem d_ST_pieceAt_1 : decode b_ST_pieceAt 1 = .ok (.ifCond .lt 15, 3) := by decide +kernel
theorem d_ST_pieceAt_4 : decode b_ST_pieceAt 4 = .ok (.iload_n 1, 1) := by decide +kernel
theorem d_ST_pieceAt_5 : decode b_ST_pieceAt 5 = .ok (.aload_n 0, 1) := by decide +kernel
theorem d_ST_pieceAt_6 : decode b_ST_pieceAt 6 = .ok (.arraylength, 1) := by decide +kernel
theorem d_ST_pieceAt_7 : decode b_ST_pieceAt 7 = .ok (.if_icmp .ge 9, 3) := by decide +kernel
theorem d_ST_pieceAt_10 : decode b_ST_pieceAt 10 = .ok (.aload_n 0, 1) := by decide +kernel
theorem d_ST_pieceAt_11 : decode b_ST_pieceAt 11 = .ok (.iload_n 1, 1) := by decide +kernel
theorem d_ST_pieceAt_12 : decode b_ST_pieceAt 12 = .ok (.iaload, 1) := by decide +kernel
theorem d_ST_pieceAt_13 : decode b_ST_pieceAt 13 = .ok (.goto 4, 3) := by decide +kernel
theorem d_ST_pieceAt_16 : decode b_ST_pieceAt 16 = .ok (.iconst 0, 1) := by decide +kernel
theorem d_ST_pieceAt_17 : decode b_ST_pieceAt 17 = .ok (.ireturn, 1) := by decide +kernel
theorem d_ST_needRun_0 : decode b_ST_needRun 0 = .ok (.aload_n 0, 1) := by decide +kernel
theorem d_ST_needRun_1 : decode b_ST_needRun 1 = .ok (.getfield 50, 3) := by decide +kernel
theorem d_ST_needRun_4 : decode b_ST_needRun 4 = .ok (.ifCond .ne 13, 3) := by decide +kernel
theorem d_ST_needRun_7 : decode b_ST_needRun 7 = .ok (.new 104, 3) := by decide +kernel
theorem d_ST_needRun_10 : decode b_ST_needRun 10 = .ok (.dup, 1) := by decide +kernel
theorem d_ST_needRun_11 : decode b_ST_needRun 11 = .ok (.ldc 241, 2) := by decide +kernel
theorem d_ST_needRun_13 : decode b_ST_needRun 13 = .ok (.invokespecial 108, 3) := by decide +kernel
theorem d_ST_needRun_16 : decode b_ST_needRun 16 = .ok (.athrow, 1) := by decide +kernel
theorem d_ST_needRun_17 : decode b_ST_needRun 17 = .ok (.return_, 1) := by decide +kernel
theorem d_ST_partAt_0 : decode b_ST_partAt 0 = .ok (.iload_n 1, 1) := by decide +kernel
theorem d_ST_partAt_1 : decode b_ST_partAt 1 = .ok (.ifCond .lt 20, 3) := by decide +kernel
theorem d_ST_partAt_4 : decode b_ST_partAt 4 = .ok (.iload_n 1, 1) := by decide +kernel
theorem d_ST_partAt_5 : decode b_ST_partAt 5 = .ok (.aload_n 0, 1) := by decide +kernel
theorem d_ST_partAt_6 : decode b_ST_partAt 6 = .ok (.getfield 38, 3) := by decide +kernel
theorem d_ST_partAt_9 : decode b_ST_partAt 9 = .ok (.if_icmp .ge 12, 3) := by decide +kernel
theorem d_ST_partAt_12 : decode b_ST_partAt 12 = .ok (.iload_n 1, 1) := by decide +kernel
theorem d_ST_partAt_13 : decode b_ST_partAt 13 = .ok (.aload_n 0, 1) := by decide +kernel
theorem d_ST_partAt_14 : decode b_ST_partAt 14 = .ok (.getfield 17, 3) := by decide +kernel
theorem d_ST_partAt_17 : decode b_ST_partAt 17 = .ok (.arraylength, 1) := by decide +kernel
theorem d_ST_partAt_18 : decode b_ST_partAt 18 = .ok (.if_icmp .lt 13, 3) := by decide +kernel
theorem d_ST_partAt_21 : decode b_ST_partAt 21 = .ok (.new 189, 3) := by decide +kernel
theorem d_ST_partAt_24 : decode b_ST_partAt 24 = .ok (.dup, 1) := by decide +kernel
theorem d_ST_partAt_25 : decode b_ST_partAt 25 = .ok (.ldc 243, 2) := by decide +kernel
theorem d_ST_partAt_27 : decode b_ST_partAt 27 = .ok (.invokespecial 193, 3) := by decide +kernel
theorem d_ST_partAt_30 : decode b_ST_partAt 30 = .ok (.athrow, 1) := by decide +kernel
theorem d_ST_partAt_31 : decode b_ST_partAt 31 = .ok (.aload_n 0, 1) := by decide +kernel
theorem d_ST_partAt_32 : decode b_ST_partAt 32 = .ok (.getfield 17, 3) := by decide +kernel
theorem d_ST_partAt_35 : decode b_ST_partAt 35 = .ok (.iload_n 1, 1) := by decide +kernel
theorem d_ST_partAt_36 : decode b_ST_partAt 36 = .ok (.aaload, 1) := by decide +kernel
theorem d_ST_partAt_37 : decode b_ST_partAt 37 = .ok (.areturn, 1) := by decide +kernel
theorem d_ST_cutSheetAt_0 : decode b_ST_cutSheetAt 0 = .ok (.aload_n 0, 1) := by decide +kernel
theorem d_ST_cutSheetAt_1 : decode b_ST_cutSheetAt 1 = .ok (.invokevirtual 218, 3) := by decide +kernel
theorem d_ST_cutSheetAt_4 : decode b_ST_cutSheetAt 4 = .ok (.iload_n 1, 1) := by decide +kernel
theorem d_ST_cutSheetAt_5 : decode b_ST_cutSheetAt 5 = .ok (.ifCond .lt 20, 3) := by decide +kernel
theorem d_ST_cutSheetAt_8 : decode b_ST_cutSheetAt 8 = .ok (.iload_n 1, 1) := by decide +kernel
theorem d_ST_cutSheetAt_9 : decode b_ST_cutSheetAt 9 = .ok (.aload_n 0, 1) := by decide +kernel
theorem d_ST_cutSheetAt_10 : decode b_ST_cutSheetAt 10 = .ok (.getfield 41, 3) := by decide +kernel
theorem d_ST_cutSheetAt_13 : decode b_ST_cutSheetAt 13 = .ok (.if_icmp .ge 12, 3) := by decide +kernel
theorem d_ST_cutSheetAt_16 : decode b_ST_cutSheetAt 16 = .ok (.iload_n 1, 1) := by decide +kernel
theorem d_ST_cutSheetAt_17 : decode b_ST_cutSheetAt 17 = .ok (.aload_n 0, 1) := by decide +kernel
theorem d_ST_cutSheetAt_18 : decode b_ST_cutSheetAt 18 = .ok (.getfield 23, 3) := by decide +kernel
theorem d_ST_cutSheetAt_21 : decode b_ST_cutSheetAt 21 = .ok (.arraylength, 1) := by decide +kernel
theorem d_ST_cutSheetAt_22 : decode b_ST_cutSheetAt 22 = .ok (.if_icmp .lt 13, 3) := by decide +kernel
theorem d_ST_cutSheetAt_25 : decode b_ST_cutSheetAt 25 = .ok (.new 189, 3) := by decide +kernel
theorem d_ST_cutSheetAt_28 : decode b_ST_cutSheetAt 28 = .ok (.dup, 1) := by decide +kernel
theorem d_ST_cutSheetAt_29 : decode b_ST_cutSheetAt 29 = .ok (.ldc 245, 2) := by decide +kernel
theorem d_ST_cutSheetAt_31 : decode b_ST_cutSheetAt 31 = .ok (.invokespecial 193, 3) := by decide +kernel
theorem d_ST_cutSheetAt_34 : decode b_ST_cutSheetAt 34 = .ok (.athrow, 1) := by decide +kernel
theorem d_ST_cutSheetAt_35 : decode b_ST_cutSheetAt 35 = .ok (.aload_n 0, 1) := by decide +kernel
theorem d_ST_cutSheetAt_36 : decode b_ST_cutSheetAt 36 = .ok (.getfield 23, 3) := by decide +kernel
theorem d_ST_cutSheetAt_39 : decode b_ST_cutSheetAt 39 = .ok (.iload_n 1, 1) := by decide +kernel
theorem d_ST_cutSheetAt_40 : decode b_ST_cutSheetAt 40 = .ok (.aaload, 1) := by decide +kernel
theorem d_ST_cutSheetAt_41 : decode b_ST_cutSheetAt 41 = .ok (.areturn, 1) := by decide +kernel
theorem d_ST_partsTold_0 : decode b_ST_partsTold 0 = .ok (.iconst 0, 1) := by decide +kernel
theorem d_ST_partsTold_1 : decode b_ST_partsTold 1 = .ok (.istore_n 1, 1) := by decide +kernel
theorem d_ST_partsTold_2 : decode b_ST_partsTold 2 = .ok (.iconst 0, 1) := by decide +kernel
theorem d_ST_partsTold_3 : decode b_ST_partsTold 3 = .ok (.istore_n 2, 1) := by decide +kernel
theorem d_ST_partsTold_4 : decode b_ST_partsTold 4 = .ok (.iload_n 2, 1) := by decide +kernel
theorem d_ST_partsTold_5 : decode b_ST_partsTold 5 = .ok (.aload_n 0, 1) := by decide +kernel
theorem d_ST_partsTold_6 : decode b_ST_partsTold 6 = .ok (.getfield 38, 3) := by decide +kernel
theorem d_ST_partsTold_9 : decode b_ST_partsTold 9 = .ok (.if_icmp .ge 40, 3) := by decide +kernel
theorem d_ST_partsTold_12 : decode b_ST_partsTold 12 = .ok (.iload_n 2, 1) := by decide +kernel
theorem d_ST_partsTold_13 : decode b_ST_partsTold 13 = .ok (.aload_n 0, 1) := by decide +kernel
theorem d_ST_partsTold_14 : decode b_ST_partsTold 14 = .ok (.getfield 17, 3) := by decide +kernel
theorem d_ST_partsTold_17 : decode b_ST_partsTold 17 = .ok (.arraylength, 1) := by decide +kernel
theorem d_ST_partsTold_18 : decode b_ST_partsTold 18 = .ok (.if_icmp .ge 31, 3) := by decide +kernel
theorem d_ST_partsTold_21 : decode b_ST_partsTold 21 = .ok (.iload_n 1, 1) := by decide +kernel
theorem d_ST_partsTold_22 : decode b_ST_partsTold 22 = .ok (.aload_n 0, 1) := by decide +kernel
theorem d_ST_partsTold_23 : decode b_ST_partsTold 23 = .ok (.getfield 17, 3) := by decide +kernel
theorem d_ST_partsTold_26 : decode b_ST_partsTold 26 = .ok (.iload_n 2, 1) := by decide +kernel
theorem d_ST_partsTold_27 : decode b_ST_partsTold 27 = .ok (.aaload, 1) := by decide +kernel
theorem d_ST_partsTold_28 : decode b_ST_partsTold 28 = .ok (.getfield 130, 3) := by decide +kernel
theorem d_ST_partsTold_31 : decode b_ST_partsTold 31 = .ok (.ifCond .le 9, 3) := by decide +kernel
theorem d_ST_partsTold_34 : decode b_ST_partsTold 34 = .ok (.iconst 1, 1) := by decide +kernel
theorem d_ST_partsTold_35 : decode b_ST_partsTold 35 = .ok (.iload_n 2, 1) := by decide +kernel
theorem d_ST_partsTold_36 : decode b_ST_partsTold 36 = .ok (.ishl, 1) := by decide +kernel
theorem d_ST_partsTold_37 : decode b_ST_partsTold 37 = .ok (.goto 4, 3) := by decide +kernel
theorem d_ST_partsTold_40 : decode b_ST_partsTold 40 = .ok (.iconst 0, 1) := by decide +kernel
theorem d_ST_partsTold_41 : decode b_ST_partsTold 41 = .ok (.ior, 1) := by decide +kernel
theorem d_ST_partsTold_42 : decode b_ST_partsTold 42 = .ok (.istore_n 1, 1) := by decide +kernel
theorem d_ST_partsTold_43 : decode b_ST_partsTold 43 = .ok (.iinc 2 1, 3) := by decide +kernel
theorem d_ST_partsTold_46 : decode b_ST_partsTold 46 = .ok (.goto (-42), 3) := by decide +kernel
theorem d_ST_partsTold_49 : decode b_ST_partsTold 49 = .ok (.iload_n 1, 1) := by decide +kernel
theorem d_ST_partsTold_50 : decode b_ST_partsTold 50 = .ok (.ireturn, 1) := by decide +kernel
theorem d_ST_partsStillWanted_0 : decode b_ST_partsStillWanted 0 = .ok (.iconst 0, 1) := by decide +kernel
theorem d_ST_partsStillWanted_1 : decode b_ST_partsStillWanted 1 = .ok (.istore_n 1, 1) := by decide +kernel
theorem d_ST_partsStillWanted_2 : decode b_ST_partsStillWanted 2 = .ok (.iconst 0, 1) := by decide +kernel
theorem d_ST_partsStillWanted_3 : decode b_ST_partsStillWanted 3 = .ok (.istore_n 2, 1) := by decide +kernel
theorem d_ST_partsStillWanted_4 : decode b_ST_partsStillWanted 4 = .ok (.iload_n 2, 1) := by decide +kernel
theorem d_ST_partsStillWanted_5 : decode b_ST_partsStillWanted 5 = .ok (.aload_n 0, 1) := by decide +kernel
theorem d_ST_partsStillWanted_6 : decode b_ST_partsStillWanted 6 = .ok (.getfield 38, 3) := by decide +kernel
theorem d_ST_partsStillWanted_9 : decode b_ST_partsStillWanted 9 = .ok (.if_icmp .ge 40, 3) := by decide +kernel
theorem d_ST_partsStillWanted_12 : decode b_ST_partsStillWanted 12 = .ok (.iload_n 2, 1) := by decide +kernel
theorem d_ST_partsStillWanted_13 : decode b_ST_partsStillWanted 13 = .ok (.aload_n 0, 1) := by decide +kernel
theorem d_ST_partsStillWanted_14 : decode b_ST_partsStillWanted 14 = .ok (.getfield 17, 3) := by decide +kernel
theorem d_ST_partsStillWanted_17 : decode b_ST_partsStillWanted 17 = .ok (.arraylength, 1) := by decide +kernel
theorem d_ST_partsStillWanted_18 : decode b_ST_partsStillWanted 18 = .ok (.if_icmp .ge 31, 3) := by decide +kernel
theorem d_ST_partsStillWanted_21 : decode b_ST_partsStillWanted 21 = .ok (.iload_n 1, 1) := by decide +kernel
theorem d_ST_partsStillWanted_22 : decode b_ST_partsStillWanted 22 = .ok (.aload_n 0, 1) := by decide +kernel
theorem d_ST_partsStillWanted_23 : decode b_ST_partsStillWanted 23 = .ok (.getfield 17, 3) := by decide +kernel
theorem d_ST_partsStillWanted_26 : decode b_ST_partsStillWanted 26 = .ok (.iload_n 2, 1) := by decide +kernel
theorem d_ST_partsStillWanted_27 : decode b_ST_partsStillWanted 27 = .ok (.aaload, 1) := by decide +kernel
theorem d_ST_partsStillWanted_28 : decode b_ST_partsStillWanted 28 = .ok (.getfield 221, 3) := by decide +kernel
theorem d_ST_partsStillWanted_31 : decode b_ST_partsStillWanted 31 = .ok (.ifCond .le 9, 3) := by decide +kernel
theorem d_ST_partsStillWanted_34 : decode b_ST_partsStillWanted 34 = .ok (.iconst 1, 1) := by decide +kernel
theorem d_ST_partsStillWanted_35 : decode b_ST_partsStillWanted 35 = .ok (.iload_n 2, 1) := by decide +kernel
theorem d_ST_partsStillWanted_36 : decode b_ST_partsStillWanted 36 = .ok (.ishl, 1) := by decide +kernel
theorem d_ST_partsStillWanted_37 : decode b_ST_partsStillWanted 37 = .ok (.goto 4, 3) := by decide +kernel
theorem d_ST_partsStillWanted_40 : decode b_ST_partsStillWanted 40 = .ok (.iconst 0, 1) := by decide +kernel
theorem d_ST_partsStillWanted_41 : decode b_ST_partsStillWanted 41 = .ok (.ior, 1) := by decide +kernel
theorem d_ST_partsStillWanted_42 : decode b_ST_partsStillWanted 42 = .ok (.istore_n 1, 1) := by decide +kernel
theorem d_ST_partsStillWanted_43 : decode b_ST_partsStillWanted 43 = .ok (.iinc 2 1, 3) := by decide +kernel
theorem d_ST_partsStillWanted_46 : decode b_ST_partsStillWanted 46 = .ok (.goto (-42), 3) := by decide +kernel
theorem d_ST_partsStillWanted_49 : decode b_ST_partsStillWanted 49 = .ok (.iload_n 1, 1) := by decide +kernel
theorem d_ST_partsStillWanted_50 : decode b_ST_partsStillWanted 50 = .ok (.ireturn, 1) := by decide +kernel
theorem d_ST_startRun_0 : decode b_ST_startRun 0 = .ok (.aload_n 0, 1) := by decide +kernel
theorem d_ST_startRun_1 : decode b_ST_startRun 1 = .ok (.iconst 0, 1) := by decide +kernel
theorem d_ST_startRun_2 : decode b_ST_startRun 2 = .ok (.putfield 41, 3) := by decide +kernel
theorem d_ST_startRun_5 : decode b_ST_startRun 5 = .ok (.aload_n 0, 1) := by decide +kernel
theorem d_ST_startRun_6 : decode b_ST_startRun 6 = .ok (.iconst 0, 1) := by decide +kernel
theorem d_ST_startRun_7 : decode b_ST_startRun 7 = .ok (.putfield 44, 3) := by decide +kernel
theorem d_ST_startRun_10 : decode b_ST_startRun 10 = .ok (.aload_n 0, 1) := by decide +kernel
theorem d_ST_startRun_11 : decode b_ST_startRun 11 = .ok (.iconst 0, 1) := by decide +kernel
theorem d_ST_startRun_12 : decode b_ST_startRun 12 = .ok (.putfield 47, 3) := by decide +kernel
theorem d_ST_startRun_15 : decode b_ST_startRun 15 = .ok (.iconst 0, 1) := by decide +kernel
theorem d_ST_startRun_16 : decode b_ST_startRun 16 = .ok (.istore_n 1, 1) := by decide +kernel
theorem d_ST_startRun_17 : decode b_ST_startRun 17 = .ok (.iload_n 1, 1) := by decide +kernel
theorem d_ST_startRun_18 : decode b_ST_startRun 18 = .ok (.aload_n 0, 1) := by decide +kernel
theorem d_ST_startRun_19 : decode b_ST_startRun 19 = .ok (.getfield 34, 3) := by decide +kernel
theorem d_ST_startRun_22 : decode b_ST_startRun 22 = .ok (.if_icmp .ge 36, 3) := by decide +kernel
theorem d_ST_startRun_25 : decode b_ST_startRun 25 = .ok (.iload_n 1, 1) := by decide +kernel
theorem d_ST_startRun_26 : decode b_ST_startRun 26 = .ok (.aload_n 0, 1) := by decide +kernel
theorem d_ST_startRun_27 : decode b_ST_startRun 27 = .ok (.getfield 11, 3) := by decide +kernel
theorem d_ST_startRun_30 : decode b_ST_startRun 30 = .ok (.arraylength, 1) := by decide +kernel
theorem d_ST_startRun_31 : decode b_ST_startRun 31 = .ok (.if_icmp .ge 27, 3) := by decide +kernel
theorem d_ST_startRun_34 : decode b_ST_startRun 34 = .ok (.aload_n 0, 1) := by decide +kernel
theorem d_ST_startRun_35 : decode b_ST_startRun 35 = .ok (.getfield 11, 3) := by decide +kernel
theorem d_ST_startRun_38 : decode b_ST_startRun 38 = .ok (.iload_n 1, 1) := by decide +kernel
theorem d_ST_startRun_39 : decode b_ST_startRun 39 = .ok (.aaload, 1) := by decide +kernel
theorem d_ST_startRun_40 : decode b_ST_startRun 40 = .ok (.aload_n 0, 1) := by decide +kernel
theorem d_ST_startRun_41 : decode b_ST_startRun 41 = .ok (.getfield 11, 3) := by decide +kernel
theorem d_ST_startRun_44 : decode b_ST_startRun 44 = .ok (.iload_n 1, 1) := by decide +kernel
theorem d_ST_startRun_45 : decode b_ST_startRun 45 = .ok (.aaload, 1) := by decide +kernel
theorem d_ST_startRun_46 : decode b_ST_startRun 46 = .ok (.getfield 118, 3) := by decide +kernel
theorem d_ST_startRun_49 : decode b_ST_startRun 49 = .ok (.putfield 247, 3) := by decide +kernel
theorem d_ST_startRun_52 : decode b_ST_startRun 52 = .ok (.iinc 1 1, 3) := by decide +kernel
theorem d_ST_startRun_55 : decode b_ST_startRun 55 = .ok (.goto (-38), 3) := by decide +kernel
theorem d_ST_startRun_58 : decode b_ST_startRun 58 = .ok (.iconst 0, 1) := by decide +kernel
theorem d_ST_startRun_59 : decode b_ST_startRun 59 = .ok (.istore_n 1, 1) := by decide +kernel
theorem d_ST_startRun_60 : decode b_ST_startRun 60 = .ok (.iload_n 1, 1) := by decide +kernel
theorem d_ST_startRun_61 : decode b_ST_startRun 61 = .ok (.aload_n 0, 1) := by decide +kernel
theorem d_ST_startRun_62 : decode b_ST_startRun 62 = .ok (.getfield 38, 3) := by decide +kernel
theorem d_ST_startRun_65 : decode b_ST_startRun 65 = .ok (.if_icmp .ge 36, 3) := by decide +kernel
theorem d_ST_startRun_68 : decode b_ST_startRun 68 = .ok (.iload_n 1, 1) := by decide +kernel
theorem d_ST_startRun_69 : decode b_ST_startRun 69 = .ok (.aload_n 0, 1) := by decide +kernel
theorem d_ST_startRun_70 : decode b_ST_startRun 70 = .ok (.getfield 17, 3) := by decide +kernel
theorem d_ST_startRun_73 : decode b_ST_startRun 73 = .ok (.arraylength, 1) := by decide +kernel
theorem d_ST_startRun_74 : decode b_ST_startRun 74 = .ok (.if_icmp .ge 27, 3) := by decide +kernel
theorem d_ST_startRun_77 : decode b_ST_startRun 77 = .ok (.aload_n 0, 1) := by decide +kernel
theorem d_ST_startRun_78 : decode b_ST_startRun 78 = .ok (.getfield 17, 3) := by decide +kernel
theorem d_ST_startRun_81 : decode b_ST_startRun 81 = .ok (.iload_n 1, 1) := by decide +kernel
theorem d_ST_startRun_82 : decode b_ST_startRun 82 = .ok (.aaload, 1) := by decide +kernel
theorem d_ST_startRun_83 : decode b_ST_startRun 83 = .ok (.aload_n 0, 1) := by decide +kernel
theorem d_ST_startRun_84 : decode b_ST_startRun 84 = .ok (.getfield 17, 3) := by decide +kernel
theorem d_ST_startRun_87 : decode b_ST_startRun 87 = .ok (.iload_n 1, 1) := by decide +kernel
theorem d_ST_startRun_88 : decode b_ST_startRun 88 = .ok (.aaload, 1) := by decide +kernel
theorem d_ST_startRun_89 : decode b_ST_startRun 89 = .ok (.getfield 130, 3) := by decide +kernel
theorem d_ST_startRun_92 : decode b_ST_startRun 92 = .ok (.putfield 221, 3) := by decide +kernel
theorem d_ST_startRun_95 : decode b_ST_startRun 95 = .ok (.iinc 1 1, 3) := by decide +kernel
theorem d_ST_startRun_98 : decode b_ST_startRun 98 = .ok (.goto (-38), 3) := by decide +kernel
theorem d_ST_startRun_101 : decode b_ST_startRun 101 = .ok (.return_, 1) := by decide +kernel
theorem d_ST_bestSheet_0 : decode b_ST_bestSheet 0 = .ok (.iconst (-1), 1) := by decide +kernel
theorem d_ST_bestSheet_1 : decode b_ST_bestSheet 1 = .ok (.istore_n 1, 1) := by decide +kernel
theorem d_ST_bestSheet_2 : decode b_ST_bestSheet 2 = .ok (.iconst 0, 1) := by decide +kernel
theorem d_ST_bestSheet_3 : decode b_ST_bestSheet 3 = .ok (.istore_n 2, 1) := by decide +kernel
theorem d_ST_bestSheet_4 : decode b_ST_bestSheet 4 = .ok (.iconst 1, 1) := by decide +kernel
theorem d_ST_bestSheet_5 : decode b_ST_bestSheet 5 = .ok (.istore_n 3, 1) := by decide +kernel
theorem d_ST_bestSheet_6 : decode b_ST_bestSheet 6 = .ok (.iconst 0, 1) := by decide +kernel
theorem d_ST_bestSheet_7 : decode b_ST_bestSheet 7 = .ok (.istore 4, 2) := by decide +kernel
theorem d_ST_bestSheet_9 : decode b_ST_bestSheet 9 = .ok (.iload 4, 2) := by decide +kernel
theorem d_ST_bestSheet_11 : decode b_ST_bestSheet 11 = .ok (.aload_n 0, 1) := by decide +kernel
theorem d_ST_bestSheet_12 : decode b_ST_bestSheet 12 = .ok (.getfield 34, 3) := by decide +kernel
theorem d_ST_bestSheet_15 : decode b_ST_bestSheet 15 = .ok (.if_icmp .ge 88, 3) := by decide +kernel
theorem d_ST_bestSheet_18 : decode b_ST_bestSheet 18 = .ok (.iload 4, 2) := by decide +kernel
theorem d_ST_bestSheet_20 : decode b_ST_bestSheet 20 = .ok (.aload_n 0, 1) := by decide +kernel
theorem d_ST_bestSheet_21 : decode b_ST_bestSheet 21 = .ok (.getfield 11, 3) := by decide +kernel
theorem d_ST_bestSheet_24 : decode b_ST_bestSheet 24 = .ok (.arraylength, 1) := by decide +kernel
theorem d_ST_bestSheet_25 : decode b_ST_bestSheet 25 = .ok (.if_icmp .ge 78, 3) := by decide +kernel
theorem d_ST_bestSheet_28 : decode b_ST_bestSheet 28 = .ok (.aload_n 0, 1) := by decide +kernel
theorem d_ST_bestSheet_29 : decode b_ST_bestSheet 29 = .ok (.getfield 11, 3) := by decide +kernel
theorem d_ST_bestSheet_32 : decode b_ST_bestSheet 32 = .ok (.iload 4, 2) := by decide +kernel
theorem d_ST_bestSheet_34 : decode b_ST_bestSheet 34 = .ok (.aaload, 1) := by decide +kernel
theorem d_ST_bestSheet_35 : decode b_ST_bestSheet 35 = .ok (.astore 5, 2) := by decide +kernel
theorem d_ST_bestSheet_37 : decode b_ST_bestSheet 37 = .ok (.aload 5, 2) := by decide +kernel
theorem d_ST_bestSheet_39 : decode b_ST_bestSheet 39 = .ok (.getfield 247, 3) := by decide +kernel
theorem d_ST_bestSheet_42 : decode b_ST_bestSheet 42 = .ok (.ifCond .le 55, 3) := by decide +kernel
theorem d_ST_bestSheet_45 : decode b_ST_bestSheet 45 = .ok (.aload_n 0, 1) := by decide +kernel
theorem d_ST_bestSheet_46 : decode b_ST_bestSheet 46 = .ok (.getfield 78, 3) := by decide +kernel
theorem d_ST_bestSheet_49 : decode b_ST_bestSheet 49 = .ok (.aload 5, 2) := by decide +kernel
theorem d_ST_bestSheet_51 : decode b_ST_bestSheet 51 = .ok (.aload_n 0, 1) := by decide +kernel
theorem d_ST_bestSheet_52 : decode b_ST_bestSheet 52 = .ok (.getfield 58, 3) := by decide +kernel
theorem d_ST_bestSheet_55 : decode b_ST_bestSheet 55 = .ok (.invokevirtual 250, 3) := by decide +kernel
theorem d_ST_bestSheet_58 : decode b_ST_bestSheet 58 = .ok (.aload_n 0, 1) := by decide +kernel
theorem d_ST_bestSheet_59 : decode b_ST_bestSheet 59 = .ok (.getfield 78, 3) := by decide +kernel
theorem d_ST_bestSheet_62 : decode b_ST_bestSheet 62 = .ok (.aload_n 0, 1) := by decide +kernel
theorem d_ST_bestSheet_63 : decode b_ST_bestSheet 63 = .ok (.getfield 17, 3) := by decide +kernel
theorem d_ST_bestSheet_66 : decode b_ST_bestSheet 66 = .ok (.invokevirtual 254, 3) := by decide +kernel
theorem d_ST_bestSheet_69 : decode b_ST_bestSheet 69 = .ok (.istore 6, 2) := by decide +kernel
theorem d_ST_bestSheet_71 : decode b_ST_bestSheet 71 = .ok (.iload 6, 2) := by decide +kernel
theorem d_ST_bestSheet_73 : decode b_ST_bestSheet 73 = .ok (.iload_n 3, 1) := by decide +kernel
theorem d_ST_bestSheet_74 : decode b_ST_bestSheet 74 = .ok (.imul, 1) := by decide +kernel
theorem d_ST_bestSheet_75 : decode b_ST_bestSheet 75 = .ok (.iload_n 2, 1) := by decide +kernel
theorem d_ST_bestSheet_76 : decode b_ST_bestSheet 76 = .ok (.aload 5, 2) := by decide +kernel
theorem d_ST_bestSheet_78 : decode b_ST_bestSheet 78 = .ok (.getfield 115, 3) := by decide +kernel
theorem d_ST_bestSheet_81 : decode b_ST_bestSheet 81 = .ok (.imul, 1) := by decide +kernel
theorem d_ST_bestSheet_82 : decode b_ST_bestSheet 82 = .ok (.if_icmp .le 15, 3) := by decide +kernel
theorem d_ST_bestSheet_85 : decode b_ST_bestSheet 85 = .ok (.iload 4, 2) := by decide +kernel
theorem d_ST_bestSheet_87 : decode b_ST_bestSheet 87 = .ok (.istore_n 1, 1) := by decide +kernel
theorem d_ST_bestSheet_88 : decode b_ST_bestSheet 88 = .ok (.iload 6, 2) := by decide +kernel
theorem d_ST_bestSheet_90 : decode b_ST_bestSheet 90 = .ok (.istore_n 2, 1) := by decide +kernel
theorem d_ST_bestSheet_91 : decode b_ST_bestSheet 91 = .ok (.aload 5, 2) := by decide +kernel
theorem d_ST_bestSheet_93 : decode b_ST_bestSheet 93 = .ok (.getfield 115, 3) := by decide +kernel
theorem d_ST_bestSheet_96 : decode b_ST_bestSheet 96 = .ok (.istore_n 3, 1) := by decide +kernel
theorem d_ST_bestSheet_97 : decode b_ST_bestSheet 97 = .ok (.iinc 4 1, 3) := by decide +kernel
theorem d_ST_bestSheet_100 : decode b_ST_bestSheet 100 = .ok (.goto (-91), 3) := by decide +kernel
theorem d_ST_bestSheet_103 : decode b_ST_bestSheet 103 = .ok (.iload_n 1, 1) := by decide +kernel
theorem d_ST_bestSheet_104 : decode b_ST_bestSheet 104 = .ok (.ireturn, 1) := by decide +kernel
theorem d_ST_cutOneOf_0 : decode b_ST_cutOneOf 0 = .ok (.iload_n 1, 1) := by decide +kernel
theorem d_ST_cutOneOf_1 : decode b_ST_cutOneOf 1 = .ok (.ifCond .lt 24, 3) := by decide +kernel
theorem d_ST_cutOneOf_4 : decode b_ST_cutOneOf 4 = .ok (.iload_n 1, 1) := by decide +kernel
theorem d_ST_cutOneOf_5 : decode b_ST_cutOneOf 5 = .ok (.aload_n 0, 1) := by decide +kernel
theorem d_ST_cutOneOf_6 : decode b_ST_cutOneOf 6 = .ok (.getfield 11, 3) := by decide +kernel
theorem d_ST_cutOneOf_9 : decode b_ST_cutOneOf 9 = .ok (.arraylength, 1) := by decide +kernel
theorem d_ST_cutOneOf_10 : decode b_ST_cutOneOf 10 = .ok (.if_icmp .ge 15, 3) := by decide +kernel
theorem d_ST_cutOneOf_13 : decode b_ST_cutOneOf 13 = .ok (.aload_n 0, 1) := by decide +kernel
theorem d_ST_cutOneOf_14 : decode b_ST_cutOneOf 14 = .ok (.getfield 41, 3) := by decide +kernel
theorem d_ST_cutOneOf_17 : decode b_ST_cutOneOf 17 = .ok (.aload_n 0, 1) := by decide +kernel
theorem d_ST_cutOneOf_18 : decode b_ST_cutOneOf 18 = .ok (.getfield 23, 3) := by decide +kernel
theorem d_ST_cutOneOf_21 : decode b_ST_cutOneOf 21 = .ok (.arraylength, 1) := by decide +kernel
theorem d_ST_cutOneOf_22 : decode b_ST_cutOneOf 22 = .ok (.if_icmp .lt 4, 3) := by decide +kernel
theorem d_ST_cutOneOf_25 : decode b_ST_cutOneOf 25 = .ok (.return_, 1) := by decide +kernel
theorem d_ST_cutOneOf_26 : decode b_ST_cutOneOf 26 = .ok (.aload_n 0, 1) := by decide +kernel
theorem d_ST_cutOneOf_27 : decode b_ST_cutOneOf 27 = .ok (.getfield 11, 3) := by decide +kernel
theorem d_ST_cutOneOf_30 : decode b_ST_cutOneOf 30 = .ok (.iload_n 1, 1) := by decide +kernel
theorem d_ST_cutOneOf_31 : decode b_ST_cutOneOf 31 = .ok (.aaload, 1) := by decide +kernel
theorem d_ST_cutOneOf_32 : decode b_ST_cutOneOf 32 = .ok (.astore_n 2, 1) := by decide +kernel
theorem d_ST_cutOneOf_33 : decode b_ST_cutOneOf 33 = .ok (.aload_n 0, 1) := by decide +kernel
theorem d_ST_cutOneOf_34 : decode b_ST_cutOneOf 34 = .ok (.getfield 23, 3) := by decide +kernel
theorem d_ST_cutOneOf_37 : decode b_ST_cutOneOf 37 = .ok (.aload_n 0, 1) := by decide +kernel
theorem d_ST_cutOneOf_38 : decode b_ST_cutOneOf 38 = .ok (.getfield 41, 3) := by decide +kernel
theorem d_ST_cutOneOf_41 : decode b_ST_cutOneOf 41 = .ok (.aaload, 1) := by decide +kernel
theorem d_ST_cutOneOf_42 : decode b_ST_cutOneOf 42 = .ok (.astore_n 3, 1) := by decide +kernel
theorem d_ST_cutOneOf_43 : decode b_ST_cutOneOf 43 = .ok (.aload_n 0, 1) := by decide +kernel
theorem d_ST_cutOneOf_44 : decode b_ST_cutOneOf 44 = .ok (.getfield 78, 3) := by decide +kernel
theorem d_ST_cutOneOf_47 : decode b_ST_cutOneOf 47 = .ok (.aload_n 2, 1) := by decide +kernel
theorem d_ST_cutOneOf_48 : decode b_ST_cutOneOf 48 = .ok (.aload_n 0, 1) := by decide +kernel
theorem d_ST_cutOneOf_49 : decode b_ST_cutOneOf 49 = .ok (.getfield 58, 3) := by decide +kernel
theorem d_ST_cutOneOf_52 : decode b_ST_cutOneOf 52 = .ok (.invokevirtual 250, 3) := by decide +kernel
theorem d_ST_cutOneOf_55 : decode b_ST_cutOneOf 55 = .ok (.aload_n 2, 1) := by decide +kernel
theorem d_ST_cutOneOf_56 : decode b_ST_cutOneOf 56 = .ok (.dup, 1) := by decide +kernel
theorem d_ST_cutOneOf_57 : decode b_ST_cutOneOf 57 = .ok (.getfield 247, 3) := by decide +kernel
theorem d_ST_cutOneOf_60 : decode b_ST_cutOneOf 60 = .ok (.iconst 1, 1) := by decide +kernel
theorem d_ST_cutOneOf_61 : decode b_ST_cutOneOf 61 = .ok (.isub, 1) := by decide +kernel
theorem d_ST_cutOneOf_62 : decode b_ST_cutOneOf 62 = .ok (.putfield 247, 3) := by decide +kernel
theorem d_ST_cutOneOf_65 : decode b_ST_cutOneOf 65 = .ok (.aload_n 3, 1) := by decide +kernel
theorem d_ST_cutOneOf_66 : decode b_ST_cutOneOf 66 = .ok (.iload_n 1, 1) := by decide +kernel
theorem d_ST_cutOneOf_67 : decode b_ST_cutOneOf 67 = .ok (.aload_n 2, 1) := by decide +kernel
theorem d_ST_cutOneOf_68 : decode b_ST_cutOneOf 68 = .ok (.aload_n 0, 1) := by decide +kernel
theorem d_ST_cutOneOf_69 : decode b_ST_cutOneOf 69 = .ok (.getfield 78, 3) := by decide +kernel
theorem d_ST_cutOneOf_72 : decode b_ST_cutOneOf 72 = .ok (.invokevirtual 258, 3) := by decide +kernel
theorem d_ST_cutOneOf_75 : decode b_ST_cutOneOf 75 = .ok (.aload_n 0, 1) := by decide +kernel
theorem d_ST_cutOneOf_76 : decode b_ST_cutOneOf 76 = .ok (.aload_n 3, 1) := by decide +kernel
theorem d_ST_cutOneOf_77 : decode b_ST_cutOneOf 77 = .ok (.invokevirtual 262, 3) := by decide +kernel
theorem d_ST_cutOneOf_80 : decode b_ST_cutOneOf 80 = .ok (.aload_n 3, 1) := by decide +kernel
theorem d_ST_cutOneOf_81 : decode b_ST_cutOneOf 81 = .ok (.aload_n 0, 1) := by decide +kernel
theorem d_ST_cutOneOf_82 : decode b_ST_cutOneOf 82 = .ok (.aload_n 3, 1) := by decide +kernel
theorem d_ST_cutOneOf_83 : decode b_ST_cutOneOf 83 = .ok (.invokevirtual 266, 3) := by decide +kernel
theorem d_ST_cutOneOf_86 : decode b_ST_cutOneOf 86 = .ok (.putfield 186, 3) := by decide +kernel
theorem d_ST_cutOneOf_89 : decode b_ST_cutOneOf 89 = .ok (.aload_n 0, 1) := by decide +kernel
theorem d_ST_cutOneOf_90 : decode b_ST_cutOneOf 90 = .ok (.dup, 1) := by decide +kernel
theorem d_ST_cutOneOf_91 : decode b_ST_cutOneOf 91 = .ok (.getfield 41, 3) := by decide +kernel
theorem d_ST_cutOneOf_94 : decode b_ST_cutOneOf 94 = .ok (.iconst 1, 1) := by decide +kernel
theorem d_ST_cutOneOf_95 : decode b_ST_cutOneOf 95 = .ok (.iadd, 1) := by decide +kernel
theorem d_ST_cutOneOf_96 : decode b_ST_cutOneOf 96 = .ok (.putfield 41, 3) := by decide +kernel
theorem d_ST_cutOneOf_99 : decode b_ST_cutOneOf 99 = .ok (.return_, 1) := by decide +kernel
theorem d_ST_takePieces_0 : decode b_ST_takePieces 0 = .ok (.aload_n 1, 1) := by decide +kernel
theorem d_ST_takePieces_1 : decode b_ST_takePieces 1 = .ok (.aload_n 0, 1) := by decide +kernel
theorem d_ST_takePieces_2 : decode b_ST_takePieces 2 = .ok (.getfield 44, 3) := by decide +kernel
theorem d_ST_takePieces_5 : decode b_ST_takePieces 5 = .ok (.putfield 198, 3) := by decide +kernel
theorem d_ST_takePieces_8 : decode b_ST_takePieces 8 = .ok (.aload_n 1, 1) := by decide +kernel
theorem d_ST_takePieces_9 : decode b_ST_takePieces 9 = .ok (.aload_n 0, 1) := by decide +kernel
theorem d_ST_takePieces_10 : decode b_ST_takePieces 10 = .ok (.getfield 47, 3) := by decide +kernel
theorem d_ST_takePieces_13 : decode b_ST_takePieces 13 = .ok (.putfield 215, 3) := by decide +kernel
theorem d_ST_takePieces_16 : decode b_ST_takePieces 16 = .ok (.iconst 0, 1) := by decide +kernel
theorem d_ST_takePieces_17 : decode b_ST_takePieces 17 = .ok (.istore_n 2, 1) := by decide +kernel
theorem d_ST_takePieces_18 : decode b_ST_takePieces 18 = .ok (.iload_n 2, 1) := by decide +kernel
theorem d_ST_takePieces_19 : decode b_ST_takePieces 19 = .ok (.aload_n 0, 1) := by decide +kernel
theorem d_ST_takePieces_20 : decode b_ST_takePieces 20 = .ok (.getfield 78, 3) := by decide +kernel
theorem d_ST_takePieces_23 : decode b_ST_takePieces 23 = .ok (.getfield 269, 3) := by decide +kernel
theorem d_ST_takePieces_26 : decode b_ST_takePieces 26 = .ok (.if_icmp .ge 76, 3) := by decide +kernel
theorem d_ST_takePieces_29 : decode b_ST_takePieces 29 = .ok (.iload_n 2, 1) := by decide +kernel
theorem d_ST_takePieces_30 : decode b_ST_takePieces 30 = .ok (.aload_n 0, 1) := by decide +kernel
theorem d_ST_takePieces_31 : decode b_ST_takePieces 31 = .ok (.getfield 78, 3) := by decide +kernel
theorem d_ST_takePieces_34 : decode b_ST_takePieces 34 = .ok (.getfield 272, 3) := by decide +kernel
theorem d_ST_takePieces_37 : decode b_ST_takePieces 37 = .ok (.arraylength, 1) := by decide +kernel
theorem d_ST_takePieces_38 : decode b_ST_takePieces 38 = .ok (.if_icmp .ge 64, 3) := by decide +kernel
theorem d_ST_takePieces_41 : decode b_ST_takePieces 41 = .ok (.aload_n 0, 1) := by decide +kernel
theorem d_ST_takePieces_42 : decode b_ST_takePieces 42 = .ok (.getfield 78, 3) := by decide +kernel
theorem d_ST_takePieces_45 : decode b_ST_takePieces 45 = .ok (.getfield 272, 3) := by decide +kernel
theorem d_ST_takePieces_48 : decode b_ST_takePieces 48 = .ok (.iload_n 2, 1) := by decide +kernel
theorem d_ST_takePieces_49 : decode b_ST_takePieces 49 = .ok (.iaload, 1) := by decide +kernel
theorem d_ST_takePieces_50 : decode b_ST_takePieces 50 = .ok (.istore_n 3, 1) := by decide +kernel
theorem d_ST_takePieces_51 : decode b_ST_takePieces 51 = .ok (.iload_n 3, 1) := by decide +kernel
theorem d_ST_takePieces_52 : decode b_ST_takePieces 52 = .ok (.iconst 0, 1) := by decide +kernel
theorem d_ST_takePieces_53 : decode b_ST_takePieces 53 = .ok (.invokestatic 205, 3) := by decide +kernel
theorem d_ST_takePieces_56 : decode b_ST_takePieces 56 = .ok (.istore 4, 2) := by decide +kernel
theorem d_ST_takePieces_58 : decode b_ST_takePieces 58 = .ok (.iload 4, 2) := by decide +kernel
theorem d_ST_takePieces_60 : decode b_ST_takePieces 60 = .ok (.bipush 8, 2) := by decide +kernel
theorem d_ST_takePieces_62 : decode b_ST_takePieces 62 = .ok (.if_icmp .ne 11, 3) := by decide +kernel
theorem d_ST_takePieces_65 : decode b_ST_takePieces 65 = .ok (.aload_n 0, 1) := by decide +kernel
theorem d_ST_takePieces_66 : decode b_ST_takePieces 66 = .ok (.iload_n 3, 1) := by decide +kernel
theorem d_ST_takePieces_67 : decode b_ST_takePieces 67 = .ok (.invokevirtual 275, 3) := by decide +kernel
theorem d_ST_takePieces_70 : decode b_ST_takePieces 70 = .ok (.goto 26, 3) := by decide +kernel
theorem d_ST_takePieces_73 : decode b_ST_takePieces 73 = .ok (.iload 4, 2) := by decide +kernel
theorem d_ST_takePieces_75 : decode b_ST_takePieces 75 = .ok (.aload_n 0, 1) := by decide +kernel
theorem d_ST_takePieces_76 : decode b_ST_takePieces 76 = .ok (.getfield 17, 3) := by decide +kernel
theorem d_ST_takePieces_79 : decode b_ST_takePieces 79 = .ok (.arraylength, 1) := by decide +kernel
theorem d_ST_takePieces_80 : decode b_ST_takePieces 80 = .ok (.if_icmp .ge 16, 3) := by decide +kernel
theorem d_ST_takePieces_83 : decode b_ST_takePieces 83 = .ok (.aload_n 0, 1) := by decide +kernel
theorem d_ST_takePieces_84 : decode b_ST_takePieces 84 = .ok (.aload_n 1, 1) := by decide +kernel
theorem d_ST_takePieces_85 : decode b_ST_takePieces 85 = .ok (.aload_n 0, 1) := by decide +kernel
theorem d_ST_takePieces_86 : decode b_ST_takePieces 86 = .ok (.getfield 17, 3) := by decide +kernel
theorem d_ST_takePieces_89 : decode b_ST_takePieces 89 = .ok (.iload 4, 2) := by decide +kernel
theorem d_ST_takePieces_91 : decode b_ST_takePieces 91 = .ok (.aaload, 1) := by decide +kernel
theorem d_ST_takePieces_92 : decode b_ST_takePieces 92 = .ok (.iload_n 3, 1) := by decide +kernel
theorem d_ST_takePieces_93 : decode b_ST_takePieces 93 = .ok (.invokevirtual 278, 3) := by decide +kernel
theorem d_ST_takePieces_96 : decode b_ST_takePieces 96 = .ok (.iinc 2 1, 3) := by decide +kernel
theorem d_ST_takePieces_99 : decode b_ST_takePieces 99 = .ok (.goto (-81), 3) := by decide +kernel
theorem d_ST_takePieces_102 : decode b_ST_takePieces 102 = .ok (.aload_n 1, 1) := by decide +kernel
theorem d_ST_takePieces_103 : decode b_ST_takePieces 103 = .ok (.aload_n 0, 1) := by decide +kernel
theorem d_ST_takePieces_104 : decode b_ST_takePieces 104 = .ok (.getfield 44, 3) := by decide +kernel
theorem d_ST_takePieces_107 : decode b_ST_takePieces 107 = .ok (.aload_n 1, 1) := by decide +kernel
theorem d_ST_takePieces_108 : decode b_ST_takePieces 108 = .ok (.getfield 198, 3) := by decide +kernel
theorem d_ST_takePieces_111 : decode b_ST_takePieces 111 = .ok (.isub, 1) := by decide +kernel
theorem d_ST_takePieces_112 : decode b_ST_takePieces 112 = .ok (.putfield 172, 3) := by decide +kernel
theorem d_ST_takePieces_115 : decode b_ST_takePieces 115 = .ok (.aload_n 1, 1) := by decide +kernel
theorem d_ST_takePieces_116 : decode b_ST_takePieces 116 = .ok (.aload_n 0, 1) := by decide +kernel
theorem d_ST_takePieces_117 : decode b_ST_takePieces 117 = .ok (.getfield 47, 3) := by decide +kernel
theorem d_ST_takePieces_120 : decode b_ST_takePieces 120 = .ok (.aload_n 1, 1) := by decide +kernel
theorem d_ST_takePieces_121 : decode b_ST_takePieces 121 = .ok (.getfield 215, 3) := by decide +kernel
theorem d_ST_takePieces_124 : decode b_ST_takePieces 124 = .ok (.isub, 1) := by decide +kernel
theorem d_ST_takePieces_125 : decode b_ST_takePieces 125 = .ok (.putfield 185, 3) := by decide +kernel
theorem d_ST_takePieces_128 : decode b_ST_takePieces 128 = .ok (.return_, 1) := by decide +kernel
theorem d_ST_takePart_0 : decode b_ST_takePart 0 = .ok (.aload_n 2, 1) := by decide +kernel
theorem d_ST_takePart_1 : decode b_ST_takePart 1 = .ok (.getfield 221, 3) := by decide +kernel
theorem d_ST_takePart_4 : decode b_ST_takePart 4 = .ok (.ifCond .le 55, 3) := by decide +kernel
theorem d_ST_takePart_7 : decode b_ST_takePart 7 = .ok (.aload_n 0, 1) := by decide +kernel
theorem d_ST_takePart_8 : decode b_ST_takePart 8 = .ok (.getfield 44, 3) := by decide +kernel
theorem d_ST_takePart_11 : decode b_ST_takePart 11 = .ok (.aload_n 0, 1) := by decide +kernel
theorem d_ST_takePart_12 : decode b_ST_takePart 12 = .ok (.getfield 27, 3) := by decide +kernel
theorem d_ST_takePart_15 : decode b_ST_takePart 15 = .ok (.arraylength, 1) := by decide +kernel
theorem d_ST_takePart_16 : decode b_ST_takePart 16 = .ok (.if_icmp .ge 43, 3) := by decide +kernel
theorem d_ST_takePart_19 : decode b_ST_takePart 19 = .ok (.aload_n 2, 1) := by decide +kernel
theorem d_ST_takePart_20 : decode b_ST_takePart 20 = .ok (.dup, 1) := by decide +kernel
theorem d_ST_takePart_21 : decode b_ST_takePart 21 = .ok (.getfield 221, 3) := by decide +kernel
theorem d_ST_takePart_24 : decode b_ST_takePart 24 = .ok (.iconst 1, 1) := by decide +kernel
theorem d_ST_takePart_25 : decode b_ST_takePart 25 = .ok (.isub, 1) := by decide +kernel
theorem d_ST_takePart_26 : decode b_ST_takePart 26 = .ok (.putfield 221, 3) := by decide +kernel
theorem d_ST_takePart_29 : decode b_ST_takePart 29 = .ok (.aload_n 1, 1) := by decide +kernel
theorem d_ST_takePart_30 : decode b_ST_takePart 30 = .ok (.dup, 1) := by decide +kernel
theorem d_ST_takePart_31 : decode b_ST_takePart 31 = .ok (.getfield 173, 3) := by decide +kernel
theorem d_ST_takePart_34 : decode b_ST_takePart 34 = .ok (.aload_n 2, 1) := by decide +kernel
theorem d_ST_takePart_35 : decode b_ST_takePart 35 = .ok (.invokevirtual 237, 3) := by decide +kernel
theorem d_ST_takePart_38 : decode b_ST_takePart 38 = .ok (.iadd, 1) := by decide +kernel
theorem d_ST_takePart_39 : decode b_ST_takePart 39 = .ok (.putfield 173, 3) := by decide +kernel
theorem d_ST_takePart_42 : decode b_ST_takePart 42 = .ok (.aload_n 0, 1) := by decide +kernel
theorem d_ST_takePart_43 : decode b_ST_takePart 43 = .ok (.getfield 27, 3) := by decide +kernel
theorem d_ST_takePart_46 : decode b_ST_takePart 46 = .ok (.aload_n 0, 1) := by decide +kernel
theorem d_ST_takePart_47 : decode b_ST_takePart 47 = .ok (.dup, 1) := by decide +kernel
theorem d_ST_takePart_48 : decode b_ST_takePart 48 = .ok (.getfield 44, 3) := by decide +kernel
theorem d_ST_takePart_51 : decode b_ST_takePart 51 = .ok (.dup_x1, 1) := by decide +kernel
theorem d_ST_takePart_52 : decode b_ST_takePart 52 = .ok (.iconst 1, 1) := by decide +kernel
theorem d_ST_takePart_53 : decode b_ST_takePart 53 = .ok (.iadd, 1) := by decide +kernel
theorem d_ST_takePart_54 : decode b_ST_takePart 54 = .ok (.putfield 44, 3) := by decide +kernel
theorem d_ST_takePart_57 : decode b_ST_takePart 57 = .ok (.iload_n 3, 1) := by decide +kernel
theorem d_ST_takePart_58 : decode b_ST_takePart 58 = .ok (.iastore, 1) := by decide +kernel
theorem d_ST_takePart_59 : decode b_ST_takePart 59 = .ok (.return_, 1) := by decide +kernel
theorem d_ST_keepRest_0 : decode b_ST_keepRest 0 = .ok (.iload_n 1, 1) := by decide +kernel
theorem d_ST_keepRest_1 : decode b_ST_keepRest 1 = .ok (.aload_n 0, 1) := by decide +kernel
theorem d_ST_keepRest_2 : decode b_ST_keepRest 2 = .ok (.getfield 61, 3) := by decide +kernel
theorem d_ST_keepRest_5 : decode b_ST_keepRest 5 = .ok (.invokestatic 282, 3) := by decide +kernel
theorem d_ST_keepRest_8 : decode b_ST_keepRest 8 = .ok (.ifCond .eq 32, 3) := by decide +kernel
theorem d_ST_keepRest_11 : decode b_ST_keepRest 11 = .ok (.aload_n 0, 1) := by decide +kernel
theorem d_ST_keepRest_12 : decode b_ST_keepRest 12 = .ok (.getfield 47, 3) := by decide +kernel
theorem d_ST_keepRest_15 : decode b_ST_keepRest 15 = .ok (.aload_n 0, 1) := by decide +kernel
theorem d_ST_keepRest_16 : decode b_ST_keepRest 16 = .ok (.getfield 31, 3) := by decide +kernel
theorem d_ST_keepRest_19 : decode b_ST_keepRest 19 = .ok (.arraylength, 1) := by decide +kernel
theorem d_ST_keepRest_20 : decode b_ST_keepRest 20 = .ok (.if_icmp .ge 20, 3) := by decide +kernel
theorem d_ST_keepRest_23 : decode b_ST_keepRest 23 = .ok (.aload_n 0, 1) := by decide +kernel
theorem d_ST_keepRest_24 : decode b_ST_keepRest 24 = .ok (.getfield 31, 3) := by decide +kernel
theorem d_ST_keepRest_27 : decode b_ST_keepRest 27 = .ok (.aload_n 0, 1) := by decide +kernel
theorem d_ST_keepRest_28 : decode b_ST_keepRest 28 = .ok (.dup, 1) := by decide +kernel
theorem d_ST_keepRest_29 : decode b_ST_keepRest 29 = .ok (.getfield 47, 3) := by decide +kernel
theorem d_ST_keepRest_32 : decode b_ST_keepRest 32 = .ok (.dup_x1, 1) := by decide +kernel
theorem d_ST_keepRest_33 : decode b_ST_keepRest 33 = .ok (.iconst 1, 1) := by decide +kernel
theorem d_ST_keepRest_34 : decode b_ST_keepRest 34 = .ok (.iadd, 1) := by decide +kernel
theorem d_ST_keepRest_35 : decode b_ST_keepRest 35 = .ok (.putfield 47, 3) := by decide +kernel
theorem d_ST_keepRest_38 : decode b_ST_keepRest 38 = .ok (.iload_n 1, 1) := by decide +kernel
theorem d_ST_keepRest_39 : decode b_ST_keepRest 39 = .ok (.iastore, 1) := by decide +kernel
theorem d_ST_keepRest_40 : decode b_ST_keepRest 40 = .ok (.return_, 1) := by decide +kernel
theorem d_ST_firstAlike_0 : decode b_ST_firstAlike 0 = .ok (.aload_n 0, 1) := by decide +kernel
theorem d_ST_firstAlike_1 : decode b_ST_firstAlike 1 = .ok (.getfield 69, 3) := by decide +kernel
theorem d_ST_firstAlike_4 : decode b_ST_firstAlike 4 = .ok (.getfield 286, 3) := by decide +kernel
theorem d_ST_firstAlike_7 : decode b_ST_firstAlike 7 = .ok (.istore_n 2, 1) := by decide +kernel
theorem d_ST_firstAlike_8 : decode b_ST_firstAlike 8 = .ok (.iconst 0, 1) := by decide +kernel
theorem d_ST_firstAlike_9 : decode b_ST_firstAlike 9 = .ok (.istore_n 3, 1) := by decide +kernel
theorem d_ST_firstAlike_10 : decode b_ST_firstAlike 10 = .ok (.iload_n 3, 1) := by decide +kernel
theorem d_ST_firstAlike_11 : decode b_ST_firstAlike 11 = .ok (.aload_n 0, 1) := by decide +kernel
theorem d_ST_firstAlike_12 : decode b_ST_firstAlike 12 = .ok (.getfield 41, 3) := by decide +kernel
theorem d_ST_firstAlike_15 : decode b_ST_firstAlike 15 = .ok (.if_icmp .ge 52, 3) := by decide +kernel
theorem d_ST_firstAlike_18 : decode b_ST_firstAlike 18 = .ok (.iload_n 3, 1) := by decide +kernel
theorem d_ST_firstAlike_19 : decode b_ST_firstAlike 19 = .ok (.aload_n 0, 1) := by decide +kernel
theorem d_ST_firstAlike_20 : decode b_ST_firstAlike 20 = .ok (.getfield 23, 3) := by decide +kernel
theorem d_ST_firstAlike_23 : decode b_ST_firstAlike 23 = .ok (.arraylength, 1) := by decide +kernel
theorem d_ST_firstAlike_24 : decode b_ST_firstAlike 24 = .ok (.if_icmp .ge 43, 3) := by decide +kernel
theorem d_ST_firstAlike_27 : decode b_ST_firstAlike 27 = .ok (.aload_n 0, 1) := by decide +kernel
theorem d_ST_firstAlike_28 : decode b_ST_firstAlike 28 = .ok (.getfield 23, 3) := by decide +kernel
theorem d_ST_firstAlike_31 : decode b_ST_firstAlike 31 = .ok (.iload_n 3, 1) := by decide +kernel
theorem d_ST_firstAlike_32 : decode b_ST_firstAlike 32 = .ok (.aaload, 1) := by decide +kernel
theorem d_ST_firstAlike_33 : decode b_ST_firstAlike 33 = .ok (.astore 4, 2) := by decide +kernel
theorem d_ST_firstAlike_35 : decode b_ST_firstAlike 35 = .ok (.aload 4, 2) := by decide +kernel
theorem d_ST_firstAlike_37 : decode b_ST_firstAlike 37 = .ok (.getfield 169, 3) := by decide +kernel
theorem d_ST_firstAlike_40 : decode b_ST_firstAlike 40 = .ok (.aload_n 1, 1) := by decide +kernel
theorem d_ST_firstAlike_41 : decode b_ST_firstAlike 41 = .ok (.getfield 169, 3) := by decide +kernel
theorem d_ST_firstAlike_44 : decode b_ST_firstAlike 44 = .ok (.if_icmp .ne 17, 3) := by decide +kernel
theorem d_ST_firstAlike_47 : decode b_ST_firstAlike 47 = .ok (.aload 4, 2) := by decide +kernel
theorem d_ST_firstAlike_49 : decode b_ST_firstAlike 49 = .ok (.getfield 289, 3) := by decide +kernel
theorem d_ST_firstAlike_52 : decode b_ST_firstAlike 52 = .ok (.iload_n 2, 1) := by decide +kernel
theorem d_ST_firstAlike_53 : decode b_ST_firstAlike 53 = .ok (.iconst (-1), 1) := by decide +kernel
theorem d_ST_firstAlike_54 : decode b_ST_firstAlike 54 = .ok (.ixor, 1) := by decide +kernel
theorem d_ST_firstAlike_55 : decode b_ST_firstAlike 55 = .ok (.iand, 1) := by decide +kernel
theorem d_ST_firstAlike_56 : decode b_ST_firstAlike 56 = .ok (.ifCond .ne 5, 3) := by decide +kernel
theorem d_ST_firstAlike_59 : decode b_ST_firstAlike 59 = .ok (.iload_n 3, 1) := by decide +kernel
theorem d_ST_firstAlike_60 : decode b_ST_firstAlike 60 = .ok (.ireturn, 1) := by decide +kernel
theorem d_ST_firstAlike_61 : decode b_ST_firstAlike 61 = .ok (.iinc 3 1, 3) := by decide +kernel
theorem d_ST_firstAlike_64 : decode b_ST_firstAlike 64 = .ok (.goto (-54), 3) := by decide +kernel
theorem d_ST_firstAlike_67 : decode b_ST_firstAlike 67 = .ok (.aload_n 0, 1) := by decide +kernel
theorem d_ST_firstAlike_68 : decode b_ST_firstAlike 68 = .ok (.getfield 41, 3) := by decide +kernel
theorem d_ST_firstAlike_71 : decode b_ST_firstAlike 71 = .ok (.ireturn, 1) := by decide +kernel
theorem d_LY_init_0 : decode b_LY_init 0 = .ok (.aload_n 0, 1) := by decide +kernel
theorem d_LY_init_1 : decode b_LY_init 1 = .ok (.invokespecial 3, 3) := by decide +kernel
theorem d_LY_init_4 : decode b_LY_init 4 = .ok (.aload_n 0, 1) := by decide +kernel
theorem d_LY_init_5 : decode b_LY_init 5 = .ok (.sipush 256, 3) := by decide +kernel
theorem d_LY_init_8 : decode b_LY_init 8 = .ok (.newarray .int, 2) := by decide +kernel
theorem d_LY_init_10 : decode b_LY_init 10 = .ok (.putfield 9, 3) := by decide +kernel
theorem d_LY_init_13 : decode b_LY_init 13 = .ok (.aload_n 0, 1) := by decide +kernel
theorem d_LY_init_14 : decode b_LY_init 14 = .ok (.bipush 8, 2) := by decide +kernel
theorem d_LY_init_16 : decode b_LY_init 16 = .ok (.newarray .int, 2) := by decide +kernel
theorem d_LY_init_18 : decode b_LY_init 18 = .ok (.putfield 15, 3) := by decide +kernel
theorem d_LY_init_21 : decode b_LY_init 21 = .ok (.aload_n 0, 1) := by decide +kernel
theorem d_LY_init_22 : decode b_LY_init 22 = .ok (.iconst 0, 1) := by decide +kernel
theorem d_LY_init_23 : decode b_LY_init 23 = .ok (.putfield 18, 3) := by decide +kernel
theorem d_LY_init_26 : decode b_LY_init 26 = .ok (.aload_n 0, 1) := by decide +kernel
theorem d_LY_init_27 : decode b_LY_init 27 = .ok (.iconst 0, 1) := by decide +kernel
theorem d_LY_init_28 : decode b_LY_init 28 = .ok (.putfield 22, 3) := by decide +kernel
theorem d_LY_init_31 : decode b_LY_init 31 = .ok (.aload_n 0, 1) := by decide +kernel
theorem d_LY_init_32 : decode b_LY_init 32 = .ok (.iconst 0, 1) := by decide +kernel
theorem d_LY_init_33 : decode b_LY_init 33 = .ok (.putfield 25, 3) := by decide +kernel
theorem d_LY_init_36 : decode b_LY_init 36 = .ok (.aload_n 0, 1) := by decide +kernel
theorem d_LY_init_37 : decode b_LY_init 37 = .ok (.iconst 0, 1) := by decide +kernel
theorem d_LY_init_38 : decode b_LY_init 38 = .ok (.putfield 28, 3) := by decide +kernel
theorem d_LY_init_41 : decode b_LY_init 41 = .ok (.aload_n 0, 1) := by decide +kernel
theorem d_LY_init_42 : decode b_LY_init 42 = .ok (.aload_n 1, 1) := by decide +kernel
theorem d_LY_init_43 : decode b_LY_init 43 = .ok (.putfield 31, 3) := by decide +kernel
theorem d_LY_init_46 : decode b_LY_init 46 = .ok (.return_, 1) := by decide +kernel
theorem d_LY_lay_0 : decode b_LY_lay 0 = .ok (.aload_n 0, 1) := by decide +kernel
theorem d_LY_lay_1 : decode b_LY_lay 1 = .ok (.iconst 0, 1) := by decide +kernel
theorem d_LY_lay_2 : decode b_LY_lay 2 = .ok (.putfield 18, 3) := by decide +kernel
theorem d_LY_lay_5 : decode b_LY_lay 5 = .ok (.aload_n 0, 1) := by decide +kernel
theorem d_LY_lay_6 : decode b_LY_lay 6 = .ok (.iconst 0, 1) := by decide +kernel
theorem d_LY_lay_7 : decode b_LY_lay 7 = .ok (.putfield 25, 3) := by decide +kernel
theorem d_LY_lay_10 : decode b_LY_lay 10 = .ok (.aload_n 0, 1) := by decide +kernel
theorem d_LY_lay_11 : decode b_LY_lay 11 = .ok (.iconst 0, 1) := by decide +kernel
theorem d_LY_lay_12 : decode b_LY_lay 12 = .ok (.putfield 28, 3) := by decide +kernel
theorem d_LY_lay_15 : decode b_LY_lay 15 = .ok (.aload_n 0, 1) := by decide +kernel
theorem d_LY_lay_16 : decode b_LY_lay 16 = .ok (.getfield 15, 3) := by decide +kernel
theorem d_LY_lay_19 : decode b_LY_lay 19 = .ok (.iconst 0, 1) := by decide +kernel
theorem d_LY_lay_20 : decode b_LY_lay 20 = .ok (.invokestatic 35, 3) := by decide +kernel
theorem d_LY_lay_23 : decode b_LY_lay 23 = .ok (.aload_n 0, 1) := by decide +kernel
theorem d_LY_lay_24 : decode b_LY_lay 24 = .ok (.getfield 31, 3) := by decide +kernel
theorem d_LY_lay_27 : decode b_LY_lay 27 = .ok (.iload_n 2, 1) := by decide +kernel
theorem d_LY_lay_28 : decode b_LY_lay 28 = .ok (.iconst 0, 1) := by decide +kernel
theorem d_LY_lay_29 : decode b_LY_lay 29 = .ok (.aload_n 1, 1) := by decide +kernel
theorem d_LY_lay_30 : decode b_LY_lay 30 = .ok (.getfield 41, 3) := by decide +kernel
theorem d_LY_lay_33 : decode b_LY_lay 33 = .ok (.aload_n 1, 1) := by decide +kernel
theorem d_LY_lay_34 : decode b_LY_lay 34 = .ok (.getfield 46, 3) := by decide +kernel
theorem d_LY_lay_37 : decode b_LY_lay 37 = .ok (.invokevirtual 49, 3) := by decide +kernel
theorem d_LY_lay_40 : decode b_LY_lay 40 = .ok (.istore_n 3, 1) := by decide +kernel
theorem d_LY_lay_41 : decode b_LY_lay 41 = .ok (.aload_n 0, 1) := by decide +kernel
theorem d_LY_lay_42 : decode b_LY_lay 42 = .ok (.getfield 31, 3) := by decide +kernel
theorem d_LY_lay_45 : decode b_LY_lay 45 = .ok (.iload_n 2, 1) := by decide +kernel
theorem d_LY_lay_46 : decode b_LY_lay 46 = .ok (.iconst 1, 1) := by decide +kernel
theorem d_LY_lay_47 : decode b_LY_lay 47 = .ok (.aload_n 1, 1) := by decide +kernel
theorem d_LY_lay_48 : decode b_LY_lay 48 = .ok (.getfield 41, 3) := by decide +kernel
theorem d_LY_lay_51 : decode b_LY_lay 51 = .ok (.aload_n 1, 1) := by decide +kernel
theorem d_LY_lay_52 : decode b_LY_lay 52 = .ok (.getfield 46, 3) := by decide +kernel
theorem d_LY_lay_55 : decode b_LY_lay 55 = .ok (.invokevirtual 49, 3) := by decide +kernel
theorem d_LY_lay_58 : decode b_LY_lay 58 = .ok (.istore 4, 2) := by decide +kernel
theorem d_LY_lay_60 : decode b_LY_lay 60 = .ok (.aload_n 0, 1) := by decide +kernel
theorem d_LY_lay_61 : decode b_LY_lay 61 = .ok (.iload 4, 2) := by decide +kernel
theorem d_LY_lay_63 : decode b_LY_lay 63 = .ok (.iload_n 3, 1) := by decide +kernel
theorem d_LY_lay_64 : decode b_LY_lay 64 = .ok (.if_icmp .le 7, 3) := by decide +kernel
theorem d_LY_lay_67 : decode b_LY_lay 67 = .ok (.iconst 1, 1) := by decide +kernel
theorem d_LY_lay_68 : decode b_LY_lay 68 = .ok (.goto 4, 3) := by decide +kernel
theorem d_LY_lay_71 : decode b_LY_lay 71 = .ok (.iconst 0, 1) := by decide +kernel
theorem d_LY_lay_72 : decode b_LY_lay 72 = .ok (.putfield 22, 3) := by decide +kernel
theorem d_LY_lay_75 : decode b_LY_lay 75 = .ok (.aload_n 0, 1) := by decide +kernel
theorem d_LY_lay_76 : decode b_LY_lay 76 = .ok (.iconst 0, 1) := by decide +kernel
theorem d_LY_lay_77 : decode b_LY_lay 77 = .ok (.iconst 0, 1) := by decide +kernel
theorem d_LY_lay_78 : decode b_LY_lay 78 = .ok (.aload_n 1, 1) := by decide +kernel
theorem d_LY_lay_79 : decode b_LY_lay 79 = .ok (.getfield 41, 3) := by decide +kernel
theorem d_LY_lay_82 : decode b_LY_lay 82 = .ok (.aload_n 1, 1) := by decide +kernel
theorem d_LY_lay_83 : decode b_LY_lay 83 = .ok (.getfield 46, 3) := by decide +kernel
theorem d_LY_lay_86 : decode b_LY_lay 86 = .ok (.aload_n 0, 1) := by decide +kernel
theorem d_LY_lay_87 : decode b_LY_lay 87 = .ok (.getfield 22, 3) := by decide +kernel
theorem d_LY_lay_90 : decode b_LY_lay 90 = .ok (.iload_n 2, 1) := by decide +kernel
theorem d_LY_lay_91 : decode b_LY_lay 91 = .ok (.invokevirtual 55, 3) := by decide +kernel
theorem d_LY_lay_94 : decode b_LY_lay 94 = .ok (.return_, 1) := by decide +kernel
theorem d_LY_layTree_0 : decode b_LY_layTree 0 = .ok (.iload 5, 2) := by decide +kernel
theorem d_LY_layTree_2 : decode b_LY_layTree 2 = .ok (.ifCond .ne 7, 3) := by decide +kernel
theorem d_LY_layTree_5 : decode b_LY_layTree 5 = .ok (.iload_n 3, 1) := by decide +kernel
theorem d_LY_layTree_6 : decode b_LY_layTree 6 = .ok (.goto 5, 3) := by decide +kernel
theorem d_LY_layTree_9 : decode b_LY_layTree 9 = .ok (.iload 4, 2) := by decide +kernel
theorem d_LY_layTree_11 : decode b_LY_layTree 11 = .ok (.istore 7, 2) := by decide +kernel
theorem d_LY_layTree_13 : decode b_LY_layTree 13 = .ok (.iload 5, 2) := by decide +kernel
theorem d_LY_layTree_15 : decode b_LY_layTree 15 = .ok (.ifCond .ne 8, 3) := by decide +kernel
theorem d_LY_layTree_18 : decode b_LY_layTree 18 = .ok (.iload 4, 2) := by decide +kernel
theorem d_LY_layTree_20 : decode b_LY_layTree 20 = .ok (.goto 4, 3) := by decide +kernel
theorem d_LY_layTree_23 : decode b_LY_layTree 23 = .ok (.iload_n 3, 1) := by decide +kernel
theorem d_LY_layTree_24 : decode b_LY_layTree 24 = .ok (.istore 8, 2) := by decide +kernel
theorem d_LY_layTree_26 : decode b_LY_layTree 26 = .ok (.iconst 0, 1) := by decide +kernel
theorem d_LY_layTree_27 : decode b_LY_layTree 27 = .ok (.istore 9, 2) := by decide +kernel
theorem d_LY_layTree_29 : decode b_LY_layTree 29 = .ok (.iconst 0, 1) := by decide +kernel
theorem d_LY_layTree_30 : decode b_LY_layTree 30 = .ok (.istore 10, 2) := by decide +kernel
theorem d_LY_layTree_32 : decode b_LY_layTree 32 = .ok (.iload 10, 2) := by decide +kernel
theorem d_LY_layTree_34 : decode b_LY_layTree 34 = .ok (.bipush 16, 2) := by decide +kernel
theorem d_LY_layTree_36 : decode b_LY_layTree 36 = .ok (.if_icmp .ge 214, 3) := by decide +kernel
theorem d_LY_layTree_39 : decode b_LY_layTree 39 = .ok (.iload 9, 2) := by decide +kernel
theorem d_LY_layTree_41 : decode b_LY_layTree 41 = .ok (.iload 7, 2) := by decide +kernel
theorem d_LY_layTree_43 : decode b_LY_layTree 43 = .ok (.if_icmp .ge 207, 3) := by decide +kernel
theorem d_LY_layTree_46 : decode b_LY_layTree 46 = .ok (.iload 5, 2) := by decide +kernel
theorem d_LY_layTree_48 : decode b_LY_layTree 48 = .ok (.ifCond .ne 10, 3) := by decide +kernel
theorem d_LY_layTree_51 : decode b_LY_layTree 51 = .ok (.iload_n 1, 1) := by decide +kernel
theorem d_LY_layTree_52 : decode b_LY_layTree 52 = .ok (.iload 9, 2) := by decide +kernel
theorem d_LY_layTree_54 : decode b_LY_layTree 54 = .ok (.iadd, 1) := by decide +kernel
theorem d_LY_layTree_55 : decode b_LY_layTree 55 = .ok (.goto 4, 3) := by decide +kernel
theorem d_LY_layTree_58 : decode b_LY_layTree 58 = .ok (.iload_n 1, 1) := by decide +kernel
theorem d_LY_layTree_59 : decode b_LY_layTree 59 = .ok (.istore 11, 2) := by decide +kernel
theorem d_LY_layTree_61 : decode b_LY_layTree 61 = .ok (.iload 5, 2) := by decide +kernel
theorem d_LY_layTree_63 : decode b_LY_layTree 63 = .ok (.ifCond .ne 7, 3) := by decide +kernel
theorem d_LY_layTree_66 : decode b_LY_layTree 66 = .ok (.iload_n 2, 1) := by decide +kernel
theorem d_LY_layTree_67 : decode b_LY_layTree 67 = .ok (.goto 7, 3) := by decide +kernel
theorem d_LY_layTree_70 : decode b_LY_layTree 70 = .ok (.iload_n 2, 1) := by decide +kernel
theorem d_LY_layTree_71 : decode b_LY_layTree 71 = .ok (.iload 9, 2) := by decide +kernel
theorem d_LY_layTree_73 : decode b_LY_layTree 73 = .ok (.iadd, 1) := by decide +kernel
theorem d_LY_layTree_74 : decode b_LY_layTree 74 = .ok (.istore 12, 2) := by decide +kernel
theorem d_LY_layTree_76 : decode b_LY_layTree 76 = .ok (.iload 5, 2) := by decide +kernel
theorem d_LY_layTree_78 : decode b_LY_layTree 78 = .ok (.ifCond .ne 11, 3) := by decide +kernel
theorem d_LY_layTree_81 : decode b_LY_layTree 81 = .ok (.iload 7, 2) := by decide +kernel
theorem d_LY_layTree_83 : decode b_LY_layTree 83 = .ok (.iload 9, 2) := by decide +kernel
theorem d_LY_layTree_85 : decode b_LY_layTree 85 = .ok (.isub, 1) := by decide +kernel
theorem d_LY_layTree_86 : decode b_LY_layTree 86 = .ok (.goto 4, 3) := by decide +kernel
theorem d_LY_layTree_89 : decode b_LY_layTree 89 = .ok (.iload_n 3, 1) := by decide +kernel
theorem d_LY_layTree_90 : decode b_LY_layTree 90 = .ok (.istore 13, 2) := by decide +kernel
theorem d_LY_layTree_92 : decode b_LY_layTree 92 = .ok (.iload 5, 2) := by decide +kernel
theorem d_LY_layTree_94 : decode b_LY_layTree 94 = .ok (.ifCond .ne 8, 3) := by decide +kernel
theorem d_LY_layTree_97 : decode b_LY_layTree 97 = .ok (.iload 4, 2) := by decide +kernel
theorem d_LY_layTree_99 : decode b_LY_layTree 99 = .ok (.goto 8, 3) := by decide +kernel
theorem d_LY_layTree_102 : decode b_LY_layTree 102 = .ok (.iload 7, 2) := by decide +kernel
theorem d_LY_layTree_104 : decode b_LY_layTree 104 = .ok (.iload 9, 2) := by decide +kernel
theorem d_LY_layTree_106 : decode b_LY_layTree 106 = .ok (.isub, 1) := by decide +kernel
theorem d_LY_layTree_107 : decode b_LY_layTree 107 = .ok (.istore 14, 2) := by decide +kernel
theorem d_LY_layTree_109 : decode b_LY_layTree 109 = .ok (.aload_n 0, 1) := by decide +kernel
theorem d_LY_layTree_110 : decode b_LY_layTree 110 = .ok (.getfield 31, 3) := by decide +kernel
theorem d_LY_layTree_113 : decode b_LY_layTree 113 = .ok (.iload 6, 2) := by decide +kernel
theorem d_LY_layTree_115 : decode b_LY_layTree 115 = .ok (.iload 5, 2) := by decide +kernel
theorem d_LY_layTree_117 : decode b_LY_layTree 117 = .ok (.iload 13, 2) := by decide +kernel
theorem d_LY_layTree_119 : decode b_LY_layTree 119 = .ok (.iload 14, 2) := by decide +kernel
theorem d_LY_layTree_121 : decode b_LY_layTree 121 = .ok (.invokevirtual 59, 3) := by decide +kernel
theorem d_LY_layTree_124 : decode b_LY_layTree 124 = .ok (.istore 15, 2) := by decide +kernel
theorem d_LY_layTree_126 : decode b_LY_layTree 126 = .ok (.iload 15, 2) := by decide +kernel
theorem d_LY_layTree_128 : decode b_LY_layTree 128 = .ok (.bipush 8, 2) := by decide +kernel
theorem d_LY_layTree_130 : decode b_LY_layTree 130 = .ok (.if_icmp .le 9, 3) := by decide +kernel
theorem d_LY_layTree_133 : decode b_LY_layTree 133 = .ok (.iload 6, 2) := by decide +kernel
theorem d_LY_layTree_135 : decode b_LY_layTree 135 = .ok (.iconst 1, 1) := by decide +kernel
theorem d_LY_layTree_136 : decode b_LY_layTree 136 = .ok (.if_icmp .ge 23, 3) := by decide +kernel
theorem d_LY_layTree_139 : decode b_LY_layTree 139 = .ok (.aload_n 0, 1) := by decide +kernel
theorem d_LY_layTree_140 : decode b_LY_layTree 140 = .ok (.iload 15, 2) := by decide +kernel
theorem d_LY_layTree_142 : decode b_LY_layTree 142 = .ok (.iload 15, 2) := by decide +kernel
theorem d_LY_layTree_144 : decode b_LY_layTree 144 = .ok (.iload 11, 2) := by decide +kernel
theorem d_LY_layTree_146 : decode b_LY_layTree 146 = .ok (.iload 12, 2) := by decide +kernel
theorem d_LY_layTree_148 : decode b_LY_layTree 148 = .ok (.iload 13, 2) := by decide +kernel
theorem d_LY_layTree_150 : decode b_LY_layTree 150 = .ok (.iload 14, 2) := by decide +kernel
theorem d_LY_layTree_152 : decode b_LY_layTree 152 = .ok (.invokestatic 62, 3) := by decide +kernel
theorem d_LY_layTree_155 : decode b_LY_layTree 155 = .ok (.invokevirtual 68, 3) := by decide +kernel
theorem d_LY_layTree_158 : decode b_LY_layTree 158 = .ok (.return_, 1) := by decide +kernel
theorem d_LY_layTree_159 : decode b_LY_layTree 159 = .ok (.iload 15, 2) := by decide +kernel
theorem d_LY_layTree_161 : decode b_LY_layTree 161 = .ok (.bipush 8, 2) := by decide +kernel
theorem d_LY_layTree_163 : decode b_LY_layTree 163 = .ok (.isub, 1) := by decide +kernel
theorem d_LY_layTree_164 : decode b_LY_layTree 164 = .ok (.istore 16, 2) := by decide +kernel
theorem d_LY_layTree_166 : decode b_LY_layTree 166 = .ok (.aload_n 0, 1) := by decide +kernel
theorem d_LY_layTree_167 : decode b_LY_layTree 167 = .ok (.dup, 1) := by decide +kernel
theorem d_LY_layTree_168 : decode b_LY_layTree 168 = .ok (.getfield 25, 3) := by decide +kernel
theorem d_LY_layTree_171 : decode b_LY_layTree 171 = .ok (.iconst 1, 1) := by decide +kernel
theorem d_LY_layTree_172 : decode b_LY_layTree 172 = .ok (.iadd, 1) := by decide +kernel
theorem d_LY_layTree_173 : decode b_LY_layTree 173 = .ok (.putfield 25, 3) := by decide +kernel
theorem d_LY_layTree_176 : decode b_LY_layTree 176 = .ok (.aload_n 0, 1) := by decide +kernel
theorem d_LY_layTree_177 : decode b_LY_layTree 177 = .ok (.dup, 1) := by decide +kernel
theorem d_LY_layTree_178 : decode b_LY_layTree 178 = .ok (.getfield 28, 3) := by decide +kernel
theorem d_LY_layTree_181 : decode b_LY_layTree 181 = .ok (.iload 8, 2) := by decide +kernel
theorem d_LY_layTree_183 : decode b_LY_layTree 183 = .ok (.iadd, 1) := by decide +kernel
theorem d_LY_layTree_184 : decode b_LY_layTree 184 = .ok (.putfield 28, 3) := by decide +kernel
theorem d_LY_layTree_187 : decode b_LY_layTree 187 = .ok (.iload 5, 2) := by decide +kernel
theorem d_LY_layTree_189 : decode b_LY_layTree 189 = .ok (.ifCond .ne 23, 3) := by decide +kernel
theorem d_LY_layTree_192 : decode b_LY_layTree 192 = .ok (.aload_n 0, 1) := by decide +kernel
theorem d_LY_layTree_193 : decode b_LY_layTree 193 = .ok (.iload 11, 2) := by decide +kernel
theorem d_LY_layTree_195 : decode b_LY_layTree 195 = .ok (.iload 12, 2) := by decide +kernel
theorem d_LY_layTree_197 : decode b_LY_layTree 197 = .ok (.iload 16, 2) := by decide +kernel
theorem d_LY_layTree_199 : decode b_LY_layTree 199 = .ok (.iload 14, 2) := by decide +kernel
theorem d_LY_layTree_201 : decode b_LY_layTree 201 = .ok (.iconst 1, 1) := by decide +kernel
theorem d_LY_layTree_202 : decode b_LY_layTree 202 = .ok (.iload 6, 2) := by decide +kernel
theorem d_LY_layTree_204 : decode b_LY_layTree 204 = .ok (.iconst 1, 1) := by decide +kernel
theorem d_LY_layTree_205 : decode b_LY_layTree 205 = .ok (.isub, 1) := by decide +kernel
theorem d_LY_layTree_206 : decode b_LY_layTree 206 = .ok (.invokevirtual 55, 3) := by decide +kernel
theorem d_LY_layTree_209 : decode b_LY_layTree 209 = .ok (.goto 20, 3) := by decide +kernel
theorem d_LY_layTree_212 : decode b_LY_layTree 212 = .ok (.aload_n 0, 1) := by decide +kernel
theorem d_LY_layTree_213 : decode b_LY_layTree 213 = .ok (.iload 11, 2) := by decide +kernel
theorem d_LY_layTree_215 : decode b_LY_layTree 215 = .ok (.iload 12, 2) := by decide +kernel
theorem d_LY_layTree_217 : decode b_LY_layTree 217 = .ok (.iload 13, 2) := by decide +kernel
theorem d_LY_layTree_219 : decode b_LY_layTree 219 = .ok (.iload 16, 2) := by decide +kernel
theorem d_LY_layTree_221 : decode b_LY_layTree 221 = .ok (.iconst 0, 1) := by decide +kernel
theorem d_LY_layTree_222 : decode b_LY_layTree 222 = .ok (.iload 6, 2) := by decide +kernel
theorem d_LY_layTree_224 : decode b_LY_layTree 224 = .ok (.iconst 1, 1) := by decide +kernel
theorem d_LY_layTree_225 : decode b_LY_layTree 225 = .ok (.isub, 1) := by decide +kernel
theorem d_LY_layTree_226 : decode b_LY_layTree 226 = .ok (.invokevirtual 55, 3) := by decide +kernel
theorem d_LY_layTree_229 : decode b_LY_layTree 229 = .ok (.iload 9, 2) := by decide +kernel
theorem d_LY_layTree_231 : decode b_LY_layTree 231 = .ok (.iload 16, 2) := by decide +kernel
theorem d_LY_layTree_233 : decode b_LY_layTree 233 = .ok (.aload_n 0, 1) := by decide +kernel
theorem d_LY_layTree_234 : decode b_LY_layTree 234 = .ok (.getfield 31, 3) := by decide +kernel
theorem d_LY_layTree_237 : decode b_LY_layTree 237 = .ok (.getfield 72, 3) := by decide +kernel
theorem d_LY_layTree_240 : decode b_LY_layTree 240 = .ok (.iadd, 1) := by decide +kernel
theorem d_LY_layTree_241 : decode b_LY_layTree 241 = .ok (.iadd, 1) := by decide +kernel
theorem d_LY_layTree_242 : decode b_LY_layTree 242 = .ok (.istore 9, 2) := by decide +kernel
theorem d_LY_layTree_244 : decode b_LY_layTree 244 = .ok (.iinc 10 1, 3) := by decide +kernel
theorem d_LY_layTree_247 : decode b_LY_layTree 247 = .ok (.goto (-215), 3) := by decide +kernel
theorem d_LY_layTree_250 : decode b_LY_layTree 250 = .ok (.return_, 1) := by decide +kernel
theorem d_LY_addPiece_0 : decode b_LY_addPiece 0 = .ok (.aload_n 0, 1) := by decide +kernel
theorem d_LY_addPiece_1 : decode b_LY_addPiece 1 = .ok (.getfield 18, 3) := by decide +kernel
theorem d_LY_addPiece_4 : decode b_LY_addPiece 4 = .ok (.aload_n 0, 1) := by decide +kernel
theorem d_LY_addPiece_5 : decode b_LY_addPiece 5 = .ok (.getfield 9, 3) := by decide +kernel
theorem d_LY_addPiece_8 : decode b_LY_addPiece 8 = .ok (.arraylength, 1) := by decide +kernel
theorem d_LY_addPiece_9 : decode b_LY_addPiece 9 = .ok (.if_icmp .ge 20, 3) := by decide +kernel
theorem d_LY_addPiece_12 : decode b_LY_addPiece 12 = .ok (.aload_n 0, 1) := by decide +kernel
theorem d_LY_addPiece_13 : decode b_LY_addPiece 13 = .ok (.getfield 9, 3) := by decide +kernel
theorem d_LY_addPiece_16 : decode b_LY_addPiece 16 = .ok (.aload_n 0, 1) := by decide +kernel
theorem d_LY_addPiece_17 : decode b_LY_addPiece 17 = .ok (.dup, 1) := by decide +kernel
theorem d_LY_addPiece_18 : decode b_LY_addPiece 18 = .ok (.getfield 18, 3) := by decide +kernel
theorem d_LY_addPiece_21 : decode b_LY_addPiece 21 = .ok (.dup_x1, 1) := by decide +kernel
theorem d_LY_addPiece_22 : decode b_LY_addPiece 22 = .ok (.iconst 1, 1) := by decide +kernel
theorem d_LY_addPiece_23 : decode b_LY_addPiece 23 = .ok (.iadd, 1) := by decide +kernel
theorem d_LY_addPiece_24 : decode b_LY_addPiece 24 = .ok (.putfield 18, 3) := by decide +kernel
theorem d_LY_addPiece_27 : decode b_LY_addPiece 27 = .ok (.iload_n 2, 1) := by decide +kernel
theorem d_LY_addPiece_28 : decode b_LY_addPiece 28 = .ok (.iastore, 1) := by decide +kernel
theorem d_LY_addPiece_29 : decode b_LY_addPiece 29 = .ok (.iload_n 1, 1) := by decide +kernel
theorem d_LY_addPiece_30 : decode b_LY_addPiece 30 = .ok (.ifCond .lt 22, 3) := by decide +kernel
theorem d_LY_addPiece_33 : decode b_LY_addPiece 33 = .ok (.iload_n 1, 1) := by decide +kernel
theorem d_LY_addPiece_34 : decode b_LY_addPiece 34 = .ok (.aload_n 0, 1) := by decide +kernel
theorem d_LY_addPiece_35 : decode b_LY_addPiece 35 = .ok (.getfield 15, 3) := by decide +kernel
theorem d_LY_addPiece_38 : decode b_LY_addPiece 38 = .ok (.arraylength, 1) := by decide +kernel
theorem d_LY_addPiece_39 : decode b_LY_addPiece 39 = .ok (.if_icmp .ge 13, 3) := by decide +kernel
theorem d_LY_addPiece_42 : decode b_LY_addPiece 42 = .ok (.aload_n 0, 1) := by decide +kernel
theorem d_LY_addPiece_43 : decode b_LY_addPiece 43 = .ok (.getfield 15, 3) := by decide +kernel
theorem d_LY_addPiece_46 : decode b_LY_addPiece 46 = .ok (.iload_n 1, 1) := by decide +kernel
theorem d_LY_addPiece_47 : decode b_LY_addPiece 47 = .ok (.dup2, 1) := by decide +kernel
theorem d_LY_addPiece_48 : decode b_LY_addPiece 48 = .ok (.iaload, 1) := by decide +kernel
theorem d_LY_addPiece_49 : decode b_LY_addPiece 49 = .ok (.iconst 1, 1) := by decide +kernel
theorem d_LY_addPiece_50 : decode b_LY_addPiece 50 = .ok (.iadd, 1) := by decide +kernel
theorem d_LY_addPiece_51 : decode b_LY_addPiece 51 = .ok (.iastore, 1) := by decide +kernel
theorem d_LY_addPiece_52 : decode b_LY_addPiece 52 = .ok (.return_, 1) := by decide +kernel
theorem d_LY_areaToTake_0 : decode b_LY_areaToTake 0 = .ok (.iconst 0, 1) := by decide +kernel
theorem d_LY_areaToTake_1 : decode b_LY_areaToTake 1 = .ok (.istore_n 2, 1) := by decide +kernel
theorem d_LY_areaToTake_2 : decode b_LY_areaToTake 2 = .ok (.iconst 0, 1) := by decide +kernel
theorem d_LY_areaToTake_3 : decode b_LY_areaToTake 3 = .ok (.istore_n 3, 1) := by decide +kernel
theorem d_LY_areaToTake_4 : decode b_LY_areaToTake 4 = .ok (.iload_n 3, 1) := by decide +kernel
theorem d_LY_areaToTake_5 : decode b_LY_areaToTake 5 = .ok (.aload_n 0, 1) := by decide +kernel
theorem d_LY_areaToTake_6 : decode b_LY_areaToTake 6 = .ok (.getfield 15, 3) := by decide +kernel
theorem d_LY_areaToTake_9 : decode b_LY_areaToTake 9 = .ok (.arraylength, 1) := by decide +kernel
theorem d_LY_areaToTake_10 : decode b_LY_areaToTake 10 = .ok (.if_icmp .ge 40, 3) := by decide +kernel
theorem d_LY_areaToTake_13 : decode b_LY_areaToTake 13 = .ok (.iload_n 3, 1) := by decide +kernel
theorem d_LY_areaToTake_14 : decode b_LY_areaToTake 14 = .ok (.aload_n 1, 1) := by decide +kernel
theorem d_LY_areaToTake_15 : decode b_LY_areaToTake 15 = .ok (.arraylength, 1) := by decide +kernel
theorem d_LY_areaToTake_16 : decode b_LY_areaToTake 16 = .ok (.if_icmp .ge 34, 3) := by decide +kernel
theorem d_LY_areaToTake_19 : decode b_LY_areaToTake 19 = .ok (.iload_n 2, 1) := by decide +kernel
theorem d_LY_areaToTake_20 : decode b_LY_areaToTake 20 = .ok (.aload_n 0, 1) := by decide +kernel
theorem d_LY_areaToTake_21 : decode b_LY_areaToTake 21 = .ok (.getfield 15, 3) := by decide +kernel
theorem d_LY_areaToTake_24 : decode b_LY_areaToTake 24 = .ok (.iload_n 3, 1) := by decide +kernel
theorem d_LY_areaToTake_25 : decode b_LY_areaToTake 25 = .ok (.iaload, 1) := by decide +kernel
theorem d_LY_areaToTake_26 : decode b_LY_areaToTake 26 = .ok (.aload_n 1, 1) := by decide +kernel
theorem d_LY_areaToTake_27 : decode b_LY_areaToTake 27 = .ok (.iload_n 3, 1) := by decide +kernel
theorem d_LY_areaToTake_28 : decode b_LY_areaToTake 28 = .ok (.aaload, 1) := by decide +kernel
theorem d_LY_areaToTake_29 : decode b_LY_areaToTake 29 = .ok (.getfield 75, 3) := by decide +kernel
theorem d_LY_areaToTake_32 : decode b_LY_areaToTake 32 = .ok (.invokestatic 80, 3) := by decide +kernel
theorem d_LY_areaToTake_35 : decode b_LY_areaToTake 35 = .ok (.aload_n 1, 1) := by decide +kernel
theorem d_LY_areaToTake_36 : decode b_LY_areaToTake 36 = .ok (.iload_n 3, 1) := by decide +kernel
theorem d_LY_areaToTake_37 : decode b_LY_areaToTake 37 = .ok (.aaload, 1) := by decide +kernel
theorem d_LY_areaToTake_38 : decode b_LY_areaToTake 38 = .ok (.invokevirtual 86, 3) := by decide +kernel
theorem d_LY_areaToTake_41 : decode b_LY_areaToTake 41 = .ok (.imul, 1) := by decide +kernel
theorem d_LY_areaToTake_42 : decode b_LY_areaToTake 42 = .ok (.iadd, 1) := by decide +kernel
theorem d_LY_areaToTake_43 : decode b_LY_areaToTake 43 = .ok (.istore_n 2, 1) := by decide +kernel
theorem d_LY_areaToTake_44 : decode b_LY_areaToTake 44 = .ok (.iinc 3 1, 3) := by decide +kernel
theorem d_LY_areaToTake_47 : decode b_LY_areaToTake 47 = .ok (.goto (-43), 3) := by decide +kernel
theorem d_LY_areaToTake_50 : decode b_LY_areaToTake 50 = .ok (.iload_n 2, 1) := by decide +kernel
theorem d_LY_areaToTake_51 : decode b_LY_areaToTake 51 = .ok (.ireturn, 1) := by decide +kernel
theorem d_LY_partsUsed_0 : decode b_LY_partsUsed 0 = .ok (.iconst 0, 1) := by decide +kernel
theorem d_LY_partsUsed_1 : decode b_LY_partsUsed 1 = .ok (.istore_n 1, 1) := by decide +kernel
theorem d_LY_partsUsed_2 : decode b_LY_partsUsed 2 = .ok (.iconst 0, 1) := by decide +kernel
theorem d_LY_partsUsed_3 : decode b_LY_partsUsed 3 = .ok (.istore_n 2, 1) := by decide +kernel
theorem d_LY_partsUsed_4 : decode b_LY_partsUsed 4 = .ok (.iload_n 2, 1) := by decide +kernel
theorem d_LY_partsUsed_5 : decode b_LY_partsUsed 5 = .ok (.aload_n 0, 1) := by decide +kernel
theorem d_LY_partsUsed_6 : decode b_LY_partsUsed 6 = .ok (.getfield 15, 3) := by decide +kernel
theorem d_LY_partsUsed_9 : decode b_LY_partsUsed 9 = .ok (.arraylength, 1) := by decide +kernel
theorem d_LY_partsUsed_10 : decode b_LY_partsUsed 10 = .ok (.if_icmp .ge 28, 3) := by decide +kernel
theorem d_LY_partsUsed_13 : decode b_LY_partsUsed 13 = .ok (.iload_n 1, 1) := by decide +kernel
theorem d_LY_partsUsed_14 : decode b_LY_partsUsed 14 = .ok (.aload_n 0, 1) := by decide +kernel
theorem d_LY_partsUsed_15 : decode b_LY_partsUsed 15 = .ok (.getfield 15, 3) := by decide +kernel
theorem d_LY_partsUsed_18 : decode b_LY_partsUsed 18 = .ok (.iload_n 2, 1) := by decide +kernel
theorem d_LY_partsUsed_19 : decode b_LY_partsUsed 19 = .ok (.iaload, 1) := by decide +kernel
theorem d_LY_partsUsed_20 : decode b_LY_partsUsed 20 = .ok (.ifCond .le 9, 3) := by decide +kernel
theorem d_LY_partsUsed_23 : decode b_LY_partsUsed 23 = .ok (.iconst 1, 1) := by decide +kernel
theorem d_LY_partsUsed_24 : decode b_LY_partsUsed 24 = .ok (.iload_n 2, 1) := by decide +kernel
theorem d_LY_partsUsed_25 : decode b_LY_partsUsed 25 = .ok (.ishl, 1) := by decide +kernel
theorem d_LY_partsUsed_26 : decode b_LY_partsUsed 26 = .ok (.goto 4, 3) := by decide +kernel
theorem d_LY_partsUsed_29 : decode b_LY_partsUsed 29 = .ok (.iconst 0, 1) := by decide +kernel
theorem d_LY_partsUsed_30 : decode b_LY_partsUsed 30 = .ok (.ior, 1) := by decide +kernel
theorem d_LY_partsUsed_31 : decode b_LY_partsUsed 31 = .ok (.istore_n 1, 1) := by decide +kernel
theorem d_LY_partsUsed_32 : decode b_LY_partsUsed 32 = .ok (.iinc 2 1, 3) := by decide +kernel
theorem d_LY_partsUsed_35 : decode b_LY_partsUsed 35 = .ok (.goto (-31), 3) := by decide +kernel
theorem d_LY_partsUsed_38 : decode b_LY_partsUsed 38 = .ok (.iload_n 1, 1) := by decide +kernel
theorem d_LY_partsUsed_39 : decode b_LY_partsUsed 39 = .ok (.ireturn, 1) := by decide +kernel
end
section
theorem d_MO_init_0 : decode b_MO_init 0 = .ok (.aload_n 0, 1) := by decide +kernel
theorem d_MO_init_1 : decode b_MO_init 1 = .ok (.invokespecial 1, 3) := by decide +kernel
theorem d_MO_init_4 : decode b_MO_init 4 = .ok (.aload_n 0, 1) := by decide +kernel
theorem d_MO_init_5 : decode b_MO_init 5 = .ok (.iconst 4, 1) := by decide +kernel
theorem d_MO_init_6 : decode b_MO_init 6 = .ok (.newarray .int, 2) := by decide +kernel
theorem d_MO_init_8 : decode b_MO_init 8 = .ok (.putfield 7, 3) := by decide +kernel
theorem d_MO_init_11 : decode b_MO_init 11 = .ok (.aload_n 0, 1) := by decide +kernel
theorem d_MO_init_12 : decode b_MO_init 12 = .ok (.iconst 4, 1) := by decide +kernel
theorem d_MO_init_13 : decode b_MO_init 13 = .ok (.newarray .int, 2) := by decide +kernel
theorem d_MO_init_15 : decode b_MO_init 15 = .ok (.putfield 13, 3) := by decide +kernel
theorem d_MO_init_18 : decode b_MO_init 18 = .ok (.aload_n 0, 1) := by decide +kernel
theorem d_MO_init_19 : decode b_MO_init 19 = .ok (.iconst 4, 1) := by decide +kernel
theorem d_MO_init_20 : decode b_MO_init 20 = .ok (.newarray .int, 2) := by decide +kernel
theorem d_MO_init_22 : decode b_MO_init 22 = .ok (.putfield 16, 3) := by decide +kernel
theorem d_MO_init_25 : decode b_MO_init 25 = .ok (.aload_n 0, 1) := by decide +kernel
theorem d_MO_init_26 : decode b_MO_init 26 = .ok (.iconst 4, 1) := by decide +kernel
theorem d_MO_init_27 : decode b_MO_init 27 = .ok (.newarray .int, 2) := by decide +kernel
theorem d_MO_init_29 : decode b_MO_init 29 = .ok (.putfield 19, 3) := by decide +kernel
theorem d_MO_init_32 : decode b_MO_init 32 = .ok (.aload_n 0, 1) := by decide +kernel
theorem d_MO_init_33 : decode b_MO_init 33 = .ok (.bipush 8, 2) := by decide +kernel
theorem d_MO_init_35 : decode b_MO_init 35 = .ok (.newarray .int, 2) := by decide +kernel
theorem d_MO_init_37 : decode b_MO_init 37 = .ok (.putfield 22, 3) := by decide +kernel
theorem d_MO_init_40 : decode b_MO_init 40 = .ok (.aload_n 0, 1) := by decide +kernel
theorem d_MO_init_41 : decode b_MO_init 41 = .ok (.bipush 8, 2) := by decide +kernel
theorem d_MO_init_43 : decode b_MO_init 43 = .ok (.newarray .int, 2) := by decide +kernel
theorem d_MO_init_45 : decode b_MO_init 45 = .ok (.putfield 25, 3) := by decide +kernel
theorem d_MO_init_48 : decode b_MO_init 48 = .ok (.aload_n 0, 1) := by decide +kernel
theorem d_MO_init_49 : decode b_MO_init 49 = .ok (.bipush 8, 2) := by decide +kernel
theorem d_MO_init_51 : decode b_MO_init 51 = .ok (.newarray .int, 2) := by decide +kernel
theorem d_MO_init_53 : decode b_MO_init 53 = .ok (.putfield 28, 3) := by decide +kernel
theorem d_MO_init_56 : decode b_MO_init 56 = .ok (.aload_n 0, 1) := by decide +kernel
theorem d_MO_init_57 : decode b_MO_init 57 = .ok (.bipush 8, 2) := by decide +kernel
theorem d_MO_init_59 : decode b_MO_init 59 = .ok (.newarray .boolean, 2) := by decide +kernel
theorem d_MO_init_61 : decode b_MO_init 61 = .ok (.putfield 31, 3) := by decide +kernel
theorem d_MO_init_64 : decode b_MO_init 64 = .ok (.aload_n 0, 1) := by decide +kernel
theorem d_MO_init_65 : decode b_MO_init 65 = .ok (.bipush 8, 2) := by decide +kernel
theorem d_MO_init_67 : decode b_MO_init 67 = .ok (.newarray .int, 2) := by decide +kernel
theorem d_MO_init_69 : decode b_MO_init 69 = .ok (.putfield 35, 3) := by decide +kernel
theorem d_MO_init_72 : decode b_MO_init 72 = .ok (.aload_n 0, 1) := by decide +kernel
theorem d_MO_init_73 : decode b_MO_init 73 = .ok (.iconst 4, 1) := by decide +kernel
theorem d_MO_init_74 : decode b_MO_init 74 = .ok (.newarray .int, 2) := by decide +kernel
theorem d_MO_init_76 : decode b_MO_init 76 = .ok (.putfield 38, 3) := by decide +kernel
theorem d_MO_init_79 : decode b_MO_init 79 = .ok (.aload_n 0, 1) := by decide +kernel
theorem d_MO_init_80 : decode b_MO_init 80 = .ok (.bipush 8, 2) := by decide +kernel
theorem d_MO_init_82 : decode b_MO_init 82 = .ok (.newarray .int, 2) := by decide +kernel
theorem d_MO_init_84 : decode b_MO_init 84 = .ok (.putfield 41, 3) := by decide +kernel
theorem d_MO_init_87 : decode b_MO_init 87 = .ok (.aload_n 0, 1) := by decide +kernel
theorem d_MO_init_88 : decode b_MO_init 88 = .ok (.sipush 2312, 3) := by decide +kernel
theorem d_MO_init_91 : decode b_MO_init 91 = .ok (.newarray .int, 2) := by decide +kernel
theorem d_MO_init_93 : decode b_MO_init 93 = .ok (.putfield 44, 3) := by decide +kernel
theorem d_MO_init_96 : decode b_MO_init 96 = .ok (.aload_n 0, 1) := by decide +kernel
theorem d_MO_init_97 : decode b_MO_init 97 = .ok (.sipush 2312, 3) := by decide +kernel
theorem d_MO_init_100 : decode b_MO_init 100 = .ok (.newarray .int, 2) := by decide +kernel
theorem d_MO_init_102 : decode b_MO_init 102 = .ok (.putfield 47, 3) := by decide +kernel
theorem d_MO_init_105 : decode b_MO_init 105 = .ok (.aload_n 0, 1) := by decide +kernel
theorem d_MO_init_106 : decode b_MO_init 106 = .ok (.sipush 2312, 3) := by decide +kernel
theorem d_MO_init_109 : decode b_MO_init 109 = .ok (.newarray .int, 2) := by decide +kernel
theorem d_MO_init_111 : decode b_MO_init 111 = .ok (.putfield 50, 3) := by decide +kernel
theorem d_MO_init_114 : decode b_MO_init 114 = .ok (.aload_n 0, 1) := by decide +kernel
theorem d_MO_init_115 : decode b_MO_init 115 = .ok (.sipush 3600, 3) := by decide +kernel
theorem d_MO_init_118 : decode b_MO_init 118 = .ok (.newarray .int, 2) := by decide +kernel
theorem d_MO_init_120 : decode b_MO_init 120 = .ok (.putfield 53, 3) := by decide +kernel
theorem d_MO_init_123 : decode b_MO_init 123 = .ok (.aload_n 0, 1) := by decide +kernel
theorem d_MO_init_124 : decode b_MO_init 124 = .ok (.bipush 20, 2) := by decide +kernel
theorem d_MO_init_126 : decode b_MO_init 126 = .ok (.newarray .int, 2) := by decide +kernel
theorem d_MO_init_128 : decode b_MO_init 128 = .ok (.putfield 56, 3) := by decide +kernel
theorem d_MO_init_131 : decode b_MO_init 131 = .ok (.aload_n 0, 1) := by decide +kernel
theorem d_MO_init_132 : decode b_MO_init 132 = .ok (.bipush 20, 2) := by decide +kernel
theorem d_MO_init_134 : decode b_MO_init 134 = .ok (.newarray .int, 2) := by decide +kernel
theorem d_MO_init_136 : decode b_MO_init 136 = .ok (.putfield 59, 3) := by decide +kernel
theorem d_MO_init_139 : decode b_MO_init 139 = .ok (.aload_n 0, 1) := by decide +kernel
theorem d_MO_init_140 : decode b_MO_init 140 = .ok (.bipush 20, 2) := by decide +kernel
theorem d_MO_init_142 : decode b_MO_init 142 = .ok (.newarray .int, 2) := by decide +kernel
theorem d_MO_init_144 : decode b_MO_init 144 = .ok (.putfield 62, 3) := by decide +kernel
theorem d_MO_init_147 : decode b_MO_init 147 = .ok (.aload_n 0, 1) := by decide +kernel
theorem d_MO_init_148 : decode b_MO_init 148 = .ok (.bipush 20, 2) := by decide +kernel
theorem d_MO_init_150 : decode b_MO_init 150 = .ok (.newarray .int, 2) := by decide +kernel
theorem d_MO_init_152 : decode b_MO_init 152 = .ok (.putfield 65, 3) := by decide +kernel
theorem d_MO_init_155 : decode b_MO_init 155 = .ok (.aload_n 0, 1) := by decide +kernel
theorem d_MO_init_156 : decode b_MO_init 156 = .ok (.bipush 20, 2) := by decide +kernel
theorem d_MO_init_158 : decode b_MO_init 158 = .ok (.newarray .int, 2) := by decide +kernel
theorem d_MO_init_160 : decode b_MO_init 160 = .ok (.putfield 68, 3) := by decide +kernel
theorem d_MO_init_163 : decode b_MO_init 163 = .ok (.aload_n 0, 1) := by decide +kernel
theorem d_MO_init_164 : decode b_MO_init 164 = .ok (.bipush 20, 2) := by decide +kernel
theorem d_MO_init_166 : decode b_MO_init 166 = .ok (.newarray .int, 2) := by decide +kernel
theorem d_MO_init_168 : decode b_MO_init 168 = .ok (.putfield 71, 3) := by decide +kernel
theorem d_MO_init_171 : decode b_MO_init 171 = .ok (.aload_n 0, 1) := by decide +kernel
theorem d_MO_init_172 : decode b_MO_init 172 = .ok (.bipush 20, 2) := by decide +kernel
theorem d_MO_init_174 : decode b_MO_init 174 = .ok (.newarray .int, 2) := by decide +kernel
theorem d_MO_init_176 : decode b_MO_init 176 = .ok (.putfield 74, 3) := by decide +kernel
theorem d_MO_init_179 : decode b_MO_init 179 = .ok (.aload_n 0, 1) := by decide +kernel
theorem d_MO_init_180 : decode b_MO_init 180 = .ok (.bipush 20, 2) := by decide +kernel
theorem d_MO_init_182 : decode b_MO_init 182 = .ok (.newarray .int, 2) := by decide +kernel
theorem d_MO_init_184 : decode b_MO_init 184 = .ok (.putfield 77, 3) := by decide +kernel
theorem d_MO_init_187 : decode b_MO_init 187 = .ok (.aload_n 0, 1) := by decide +kernel
theorem d_MO_init_188 : decode b_MO_init 188 = .ok (.sipush 12000, 3) := by decide +kernel
theorem d_MO_init_191 : decode b_MO_init 191 = .ok (.newarray .int, 2) := by decide +kernel
theorem d_MO_init_193 : decode b_MO_init 193 = .ok (.putfield 80, 3) := by decide +kernel
theorem d_MO_init_196 : decode b_MO_init 196 = .ok (.aload_n 0, 1) := by decide +kernel
theorem d_MO_init_197 : decode b_MO_init 197 = .ok (.sipush 25600, 3) := by decide +kernel
theorem d_MO_init_200 : decode b_MO_init 200 = .ok (.newarray .int, 2) := by decide +kernel
theorem d_MO_init_202 : decode b_MO_init 202 = .ok (.putfield 83, 3) := by decide +kernel
theorem d_MO_init_205 : decode b_MO_init 205 = .ok (.aload_n 0, 1) := by decide +kernel
theorem d_MO_init_206 : decode b_MO_init 206 = .ok (.sipush 20480, 3) := by decide +kernel
theorem d_MO_init_209 : decode b_MO_init 209 = .ok (.newarray .int, 2) := by decide +kernel
theorem d_MO_init_211 : decode b_MO_init 211 = .ok (.putfield 86, 3) := by decide +kernel
theorem d_MO_init_214 : decode b_MO_init 214 = .ok (.aload_n 0, 1) := by decide +kernel
theorem d_MO_init_215 : decode b_MO_init 215 = .ok (.iload_n 1, 1) := by decide +kernel
theorem d_MO_init_216 : decode b_MO_init 216 = .ok (.ifCond .ge 7, 3) := by decide +kernel
theorem d_MO_init_219 : decode b_MO_init 219 = .ok (.iconst 0, 1) := by decide +kernel
theorem d_MO_init_220 : decode b_MO_init 220 = .ok (.goto 13, 3) := by decide +kernel
theorem d_MO_init_223 : decode b_MO_init 223 = .ok (.iload_n 1, 1) := by decide +kernel
theorem d_MO_init_224 : decode b_MO_init 224 = .ok (.iconst 3, 1) := by decide +kernel
theorem d_MO_init_225 : decode b_MO_init 225 = .ok (.if_icmp .le 7, 3) := by decide +kernel
theorem d_MO_init_228 : decode b_MO_init 228 = .ok (.iconst 3, 1) := by decide +kernel
theorem d_MO_init_229 : decode b_MO_init 229 = .ok (.goto 4, 3) := by decide +kernel
theorem d_MO_init_232 : decode b_MO_init 232 = .ok (.iload_n 1, 1) := by decide +kernel
theorem d_MO_init_233 : decode b_MO_init 233 = .ok (.putfield 89, 3) := by decide +kernel
theorem d_MO_init_236 : decode b_MO_init 236 = .ok (.aload_n 0, 1) := by decide +kernel
theorem d_MO_init_237 : decode b_MO_init 237 = .ok (.iload_n 2, 1) := by decide +kernel
theorem d_MO_init_238 : decode b_MO_init 238 = .ok (.iconst 1, 1) := by decide +kernel
theorem d_MO_init_239 : decode b_MO_init 239 = .ok (.if_icmp .ge 7, 3) := by decide +kernel
theorem d_MO_init_242 : decode b_MO_init 242 = .ok (.iconst 1, 1) := by decide +kernel
theorem d_MO_init_243 : decode b_MO_init 243 = .ok (.goto 13, 3) := by decide +kernel
theorem d_MO_init_246 : decode b_MO_init 246 = .ok (.iload_n 2, 1) := by decide +kernel
theorem d_MO_init_247 : decode b_MO_init 247 = .ok (.iconst 3, 1) := by decide +kernel
theorem d_MO_init_248 : decode b_MO_init 248 = .ok (.if_icmp .le 7, 3) := by decide +kernel
theorem d_MO_init_251 : decode b_MO_init 251 = .ok (.iconst 3, 1) := by decide +kernel
theorem d_MO_init_252 : decode b_MO_init 252 = .ok (.goto 4, 3) := by decide +kernel
theorem d_MO_init_255 : decode b_MO_init 255 = .ok (.iload_n 2, 1) := by decide +kernel
theorem d_MO_init_256 : decode b_MO_init 256 = .ok (.putfield 93, 3) := by decide +kernel
theorem d_MO_init_259 : decode b_MO_init 259 = .ok (.aload_n 0, 1) := by decide +kernel
theorem d_MO_init_260 : decode b_MO_init 260 = .ok (.iload_n 3, 1) := by decide +kernel
theorem d_MO_init_261 : decode b_MO_init 261 = .ok (.iconst 1, 1) := by decide +kernel
theorem d_MO_init_262 : decode b_MO_init 262 = .ok (.if_icmp .ge 7, 3) := by decide +kernel
theorem d_MO_init_265 : decode b_MO_init 265 = .ok (.iconst 1, 1) := by decide +kernel
theorem d_MO_init_266 : decode b_MO_init 266 = .ok (.goto 15, 3) := by decide +kernel
theorem d_MO_init_269 : decode b_MO_init 269 = .ok (.iload_n 3, 1) := by decide +kernel
theorem d_MO_init_270 : decode b_MO_init 270 = .ok (.bipush 16, 2) := by decide +kernel
theorem d_MO_init_272 : decode b_MO_init 272 = .ok (.if_icmp .le 8, 3) := by decide +kernel
theorem d_MO_init_275 : decode b_MO_init 275 = .ok (.bipush 16, 2) := by decide +kernel
theorem d_MO_init_277 : decode b_MO_init 277 = .ok (.goto 4, 3) := by decide +kernel
theorem d_MO_init_280 : decode b_MO_init 280 = .ok (.iload_n 3, 1) := by decide +kernel
theorem d_MO_init_281 : decode b_MO_init 281 = .ok (.putfield 96, 3) := by decide +kernel
theorem d_MO_init_284 : decode b_MO_init 284 = .ok (.return_, 1) := by decide +kernel
theorem d_MO_thrown_0 : decode b_MO_thrown 0 = .ok (.aload_n 0, 1) := by decide +kernel
theorem d_MO_thrown_1 : decode b_MO_thrown 1 = .ok (.getfield 99, 3) := by decide +kernel
theorem d_MO_thrown_4 : decode b_MO_thrown 4 = .ok (.ireturn, 1) := by decide +kernel
theorem d_MO_in_0 : decode b_MO_in 0 = .ok (.iload_n 0, 1) := by decide +kernel
theorem d_MO_in_1 : decode b_MO_in 1 = .ok (.iload_n 1, 1) := by decide +kernel
theorem d_MO_in_2 : decode b_MO_in 2 = .ok (.if_icmp .lt 12, 3) := by decide +kernel
theorem d_MO_in_5 : decode b_MO_in 5 = .ok (.iload_n 0, 1) := by decide +kernel
theorem d_MO_in_6 : decode b_MO_in 6 = .ok (.iload_n 2, 1) := by decide +kernel
theorem d_MO_in_7 : decode b_MO_in 7 = .ok (.if_icmp .gt 7, 3) := by decide +kernel
theorem d_MO_in_10 : decode b_MO_in 10 = .ok (.iconst 1, 1) := by decide +kernel
theorem d_MO_in_11 : decode b_MO_in 11 = .ok (.goto 4, 3) := by decide +kernel
theorem d_MO_in_14 : decode b_MO_in 14 = .ok (.iconst 0, 1) := by decide +kernel
theorem d_MO_in_15 : decode b_MO_in 15 = .ok (.ireturn, 1) := by decide +kernel
theorem d_MO_sheet_0 : decode b_MO_sheet 0 = .ok (.aload_n 0, 1) := by decide +kernel
theorem d_MO_sheet_1 : decode b_MO_sheet 1 = .ok (.iload_n 1, 1) := by decide +kernel
theorem d_MO_sheet_2 : decode b_MO_sheet 2 = .ok (.iconst 1, 1) := by decide +kernel
theorem d_MO_sheet_3 : decode b_MO_sheet 3 = .ok (.bipush 16, 2) := by decide +kernel
theorem d_MO_sheet_5 : decode b_MO_sheet 5 = .ok (.invokestatic 102, 3) := by decide +kernel
theorem d_MO_sheet_8 : decode b_MO_sheet 8 = .ok (.ifCond .eq 35, 3) := by decide +kernel
theorem d_MO_sheet_11 : decode b_MO_sheet 11 = .ok (.iload_n 2, 1) := by decide +kernel
theorem d_MO_sheet_12 : decode b_MO_sheet 12 = .ok (.iconst 1, 1) := by decide +kernel
theorem d_MO_sheet_13 : decode b_MO_sheet 13 = .ok (.bipush 16, 2) := by decide +kernel
theorem d_MO_sheet_15 : decode b_MO_sheet 15 = .ok (.invokestatic 102, 3) := by decide +kernel
theorem d_MO_sheet_18 : decode b_MO_sheet 18 = .ok (.ifCond .eq 25, 3) := by decide +kernel
theorem d_MO_sheet_21 : decode b_MO_sheet 21 = .ok (.iload_n 3, 1) := by decide +kernel
theorem d_MO_sheet_22 : decode b_MO_sheet 22 = .ok (.iconst 1, 1) := by decide +kernel
theorem d_MO_sheet_23 : decode b_MO_sheet 23 = .ok (.sipush 10000, 3) := by decide +kernel
theorem d_MO_sheet_26 : decode b_MO_sheet 26 = .ok (.invokestatic 102, 3) := by decide +kernel
theorem d_MO_sheet_29 : decode b_MO_sheet 29 = .ok (.ifCond .eq 14, 3) := by decide +kernel
theorem d_MO_sheet_32 : decode b_MO_sheet 32 = .ok (.iload 4, 2) := by decide +kernel
theorem d_MO_sheet_34 : decode b_MO_sheet 34 = .ok (.iconst 0, 1) := by decide +kernel
theorem d_MO_sheet_35 : decode b_MO_sheet 35 = .ok (.bipush 20, 2) := by decide +kernel
theorem d_MO_sheet_37 : decode b_MO_sheet 37 = .ok (.invokestatic 102, 3) := by decide +kernel
theorem d_MO_sheet_40 : decode b_MO_sheet 40 = .ok (.ifCond .ne 7, 3) := by decide +kernel
theorem d_MO_sheet_43 : decode b_MO_sheet 43 = .ok (.iconst 1, 1) := by decide +kernel
theorem d_MO_sheet_44 : decode b_MO_sheet 44 = .ok (.goto 16, 3) := by decide +kernel
theorem d_MO_sheet_47 : decode b_MO_sheet 47 = .ok (.aload_n 0, 1) := by decide +kernel
theorem d_MO_sheet_48 : decode b_MO_sheet 48 = .ok (.getfield 106, 3) := by decide +kernel
theorem d_MO_sheet_51 : decode b_MO_sheet 51 = .ok (.iconst 4, 1) := by decide +kernel
theorem d_MO_sheet_52 : decode b_MO_sheet 52 = .ok (.if_icmp .ne 7, 3) := by decide +kernel
theorem d_MO_sheet_55 : decode b_MO_sheet 55 = .ok (.iconst 2, 1) := by decide +kernel
theorem d_MO_sheet_56 : decode b_MO_sheet 56 = .ok (.goto 4, 3) := by decide +kernel
theorem d_MO_sheet_59 : decode b_MO_sheet 59 = .ok (.iconst 0, 1) := by decide +kernel
theorem d_MO_sheet_60 : decode b_MO_sheet 60 = .ok (.putfield 99, 3) := by decide +kernel
theorem d_MO_sheet_63 : decode b_MO_sheet 63 = .ok (.aload_n 0, 1) := by decide +kernel
theorem d_MO_sheet_64 : decode b_MO_sheet 64 = .ok (.getfield 99, 3) := by decide +kernel
theorem d_MO_sheet_67 : decode b_MO_sheet 67 = .ok (.ifCond .le 5, 3) := by decide +kernel
theorem d_MO_sheet_70 : decode b_MO_sheet 70 = .ok (.iconst 0, 1) := by decide +kernel
theorem d_MO_sheet_71 : decode b_MO_sheet 71 = .ok (.ireturn, 1) := by decide +kernel
theorem d_MO_sheet_72 : decode b_MO_sheet 72 = .ok (.aload_n 0, 1) := by decide +kernel
theorem d_MO_sheet_73 : decode b_MO_sheet 73 = .ok (.getfield 7, 3) := by decide +kernel
theorem d_MO_sheet_76 : decode b_MO_sheet 76 = .ok (.aload_n 0, 1) := by decide +kernel
theorem d_MO_sheet_77 : decode b_MO_sheet 77 = .ok (.getfield 106, 3) := by decide +kernel
theorem d_MO_sheet_80 : decode b_MO_sheet 80 = .ok (.iload_n 1, 1) := by decide +kernel
theorem d_MO_sheet_81 : decode b_MO_sheet 81 = .ok (.iastore, 1) := by decide +kernel
theorem d_MO_sheet_82 : decode b_MO_sheet 82 = .ok (.aload_n 0, 1) := by decide +kernel
theorem d_MO_sheet_83 : decode b_MO_sheet 83 = .ok (.getfield 13, 3) := by decide +kernel
theorem d_MO_sheet_86 : decode b_MO_sheet 86 = .ok (.aload_n 0, 1) := by decide +kernel
theorem d_MO_sheet_87 : decode b_MO_sheet 87 = .ok (.getfield 106, 3) := by decide +kernel
theorem d_MO_sheet_90 : decode b_MO_sheet 90 = .ok (.iload_n 2, 1) := by decide +kernel
theorem d_MO_sheet_91 : decode b_MO_sheet 91 = .ok (.iastore, 1) := by decide +kernel
theorem d_MO_sheet_92 : decode b_MO_sheet 92 = .ok (.aload_n 0, 1) := by decide +kernel
theorem d_MO_sheet_93 : decode b_MO_sheet 93 = .ok (.getfield 16, 3) := by decide +kernel
theorem d_MO_sheet_96 : decode b_MO_sheet 96 = .ok (.aload_n 0, 1) := by decide +kernel
theorem d_MO_sheet_97 : decode b_MO_sheet 97 = .ok (.getfield 106, 3) := by decide +kernel
theorem d_MO_sheet_100 : decode b_MO_sheet 100 = .ok (.iload_n 3, 1) := by decide +kernel
theorem d_MO_sheet_101 : decode b_MO_sheet 101 = .ok (.iastore, 1) := by decide +kernel
theorem d_MO_sheet_102 : decode b_MO_sheet 102 = .ok (.aload_n 0, 1) := by decide +kernel
theorem d_MO_sheet_103 : decode b_MO_sheet 103 = .ok (.getfield 19, 3) := by decide +kernel
theorem d_MO_sheet_106 : decode b_MO_sheet 106 = .ok (.aload_n 0, 1) := by decide +kernel
theorem d_MO_sheet_107 : decode b_MO_sheet 107 = .ok (.getfield 106, 3) := by decide +kernel
theorem d_MO_sheet_110 : decode b_MO_sheet 110 = .ok (.iload 4, 2) := by decide +kernel
theorem d_MO_sheet_112 : decode b_MO_sheet 112 = .ok (.iastore, 1) := by decide +kernel
theorem d_MO_sheet_113 : decode b_MO_sheet 113 = .ok (.aload_n 0, 1) := by decide +kernel
theorem d_MO_sheet_114 : decode b_MO_sheet 114 = .ok (.dup, 1) := by decide +kernel
theorem d_MO_sheet_115 : decode b_MO_sheet 115 = .ok (.getfield 106, 3) := by decide +kernel
theorem d_MO_sheet_118 : decode b_MO_sheet 118 = .ok (.iconst 1, 1) := by decide +kernel
theorem d_MO_sheet_119 : decode b_MO_sheet 119 = .ok (.iadd, 1) := by decide +kernel
theorem d_MO_sheet_120 : decode b_MO_sheet 120 = .ok (.putfield 106, 3) := by decide +kernel
theorem d_MO_sheet_123 : decode b_MO_sheet 123 = .ok (.aload_n 0, 1) := by decide +kernel
theorem d_MO_sheet_124 : decode b_MO_sheet 124 = .ok (.iconst 0, 1) := by decide +kernel
theorem d_MO_sheet_125 : decode b_MO_sheet 125 = .ok (.putfield 109, 3) := by decide +kernel
theorem d_MO_sheet_128 : decode b_MO_sheet 128 = .ok (.aload_n 0, 1) := by decide +kernel
theorem d_MO_sheet_129 : decode b_MO_sheet 129 = .ok (.getfield 106, 3) := by decide +kernel
theorem d_MO_sheet_132 : decode b_MO_sheet 132 = .ok (.iconst 1, 1) := by decide +kernel
theorem d_MO_sheet_133 : decode b_MO_sheet 133 = .ok (.isub, 1) := by decide +kernel
theorem d_MO_sheet_134 : decode b_MO_sheet 134 = .ok (.ireturn, 1) := by decide +kernel
theorem d_MO_part_0 : decode b_MO_part 0 = .ok (.aload_n 0, 1) := by decide +kernel
theorem d_MO_part_1 : decode b_MO_part 1 = .ok (.iload_n 1, 1) := by decide +kernel
theorem d_MO_part_2 : decode b_MO_part 2 = .ok (.iconst 1, 1) := by decide +kernel
theorem d_MO_part_3 : decode b_MO_part 3 = .ok (.bipush 16, 2) := by decide +kernel
theorem d_MO_part_5 : decode b_MO_part 5 = .ok (.invokestatic 102, 3) := by decide +kernel
theorem d_MO_part_8 : decode b_MO_part 8 = .ok (.ifCond .eq 23, 3) := by decide +kernel
theorem d_MO_part_11 : decode b_MO_part 11 = .ok (.iload_n 2, 1) := by decide +kernel
theorem d_MO_part_12 : decode b_MO_part 12 = .ok (.iconst 1, 1) := by decide +kernel
theorem d_MO_part_13 : decode b_MO_part 13 = .ok (.bipush 16, 2) := by decide +kernel
theorem d_MO_part_15 : decode b_MO_part 15 = .ok (.invokestatic 102, 3) := by decide +kernel
theorem d_MO_part_18 : decode b_MO_part 18 = .ok (.ifCond .eq 13, 3) := by decide +kernel
theorem d_MO_part_21 : decode b_MO_part 21 = .ok (.iload_n 3, 1) := by decide +kernel
theorem d_MO_part_22 : decode b_MO_part 22 = .ok (.iconst 0, 1) := by decide +kernel
theorem d_MO_part_23 : decode b_MO_part 23 = .ok (.bipush 50, 2) := by decide +kernel
theorem d_MO_part_25 : decode b_MO_part 25 = .ok (.invokestatic 102, 3) := by decide +kernel
theorem d_MO_part_28 : decode b_MO_part 28 = .ok (.ifCond .ne 7, 3) := by decide +kernel
theorem d_MO_part_31 : decode b_MO_part 31 = .ok (.iconst 1, 1) := by decide +kernel
theorem d_MO_part_32 : decode b_MO_part 32 = .ok (.goto 17, 3) := by decide +kernel
theorem d_MO_part_35 : decode b_MO_part 35 = .ok (.aload_n 0, 1) := by decide +kernel
theorem d_MO_part_36 : decode b_MO_part 36 = .ok (.getfield 113, 3) := by decide +kernel
theorem d_MO_part_39 : decode b_MO_part 39 = .ok (.bipush 8, 2) := by decide +kernel
theorem d_MO_part_41 : decode b_MO_part 41 = .ok (.if_icmp .ne 7, 3) := by decide +kernel
theorem d_MO_part_44 : decode b_MO_part 44 = .ok (.iconst 2, 1) := by decide +kernel
theorem d_MO_part_45 : decode b_MO_part 45 = .ok (.goto 4, 3) := by decide +kernel
theorem d_MO_part_48 : decode b_MO_part 48 = .ok (.iconst 0, 1) := by decide +kernel
theorem d_MO_part_49 : decode b_MO_part 49 = .ok (.putfield 99, 3) := by decide +kernel
theorem d_MO_part_52 : decode b_MO_part 52 = .ok (.aload_n 0, 1) := by decide +kernel
theorem d_MO_part_53 : decode b_MO_part 53 = .ok (.getfield 99, 3) := by decide +kernel
theorem d_MO_part_56 : decode b_MO_part 56 = .ok (.ifCond .le 5, 3) := by decide +kernel
theorem d_MO_part_59 : decode b_MO_part 59 = .ok (.iconst 0, 1) := by decide +kernel
theorem d_MO_part_60 : decode b_MO_part 60 = .ok (.ireturn, 1) := by decide +kernel
theorem d_MO_part_61 : decode b_MO_part 61 = .ok (.aload_n 0, 1) := by decide +kernel
theorem d_MO_part_62 : decode b_MO_part 62 = .ok (.getfield 22, 3) := by decide +kernel
theorem d_MO_part_65 : decode b_MO_part 65 = .ok (.aload_n 0, 1) := by decide +kernel
theorem d_MO_part_66 : decode b_MO_part 66 = .ok (.getfield 113, 3) := by decide +kernel
theorem d_MO_part_69 : decode b_MO_part 69 = .ok (.iload_n 1, 1) := by decide +kernel
theorem d_MO_part_70 : decode b_MO_part 70 = .ok (.iastore, 1) := by decide +kernel
theorem d_MO_part_71 : decode b_MO_part 71 = .ok (.aload_n 0, 1) := by decide +kernel
theorem d_MO_part_72 : decode b_MO_part 72 = .ok (.getfield 25, 3) := by decide +kernel
theorem d_MO_part_75 : decode b_MO_part 75 = .ok (.aload_n 0, 1) := by decide +kernel
theorem d_MO_part_76 : decode b_MO_part 76 = .ok (.getfield 113, 3) := by decide +kernel
theorem d_MO_part_79 : decode b_MO_part 79 = .ok (.iload_n 2, 1) := by decide +kernel
theorem d_MO_part_80 : decode b_MO_part 80 = .ok (.iastore, 1) := by decide +kernel
theorem d_MO_part_81 : decode b_MO_part 81 = .ok (.aload_n 0, 1) := by decide +kernel
theorem d_MO_part_82 : decode b_MO_part 82 = .ok (.getfield 28, 3) := by decide +kernel
theorem d_MO_part_85 : decode b_MO_part 85 = .ok (.aload_n 0, 1) := by decide +kernel
theorem d_MO_part_86 : decode b_MO_part 86 = .ok (.getfield 113, 3) := by decide +kernel
theorem d_MO_part_89 : decode b_MO_part 89 = .ok (.iload_n 3, 1) := by decide +kernel
theorem d_MO_part_90 : decode b_MO_part 90 = .ok (.iastore, 1) := by decide +kernel
theorem d_MO_part_91 : decode b_MO_part 91 = .ok (.aload_n 0, 1) := by decide +kernel
theorem d_MO_part_92 : decode b_MO_part 92 = .ok (.getfield 31, 3) := by decide +kernel
theorem d_MO_part_95 : decode b_MO_part 95 = .ok (.aload_n 0, 1) := by decide +kernel
theorem d_MO_part_96 : decode b_MO_part 96 = .ok (.getfield 113, 3) := by decide +kernel
theorem d_MO_part_99 : decode b_MO_part 99 = .ok (.iload 4, 2) := by decide +kernel
theorem d_MO_part_101 : decode b_MO_part 101 = .ok (.bastore, 1) := by decide +kernel
theorem d_MO_part_102 : decode b_MO_part 102 = .ok (.aload_n 0, 1) := by decide +kernel
theorem d_MO_part_103 : decode b_MO_part 103 = .ok (.dup, 1) := by decide +kernel
theorem d_MO_part_104 : decode b_MO_part 104 = .ok (.getfield 113, 3) := by decide +kernel
theorem d_MO_part_107 : decode b_MO_part 107 = .ok (.iconst 1, 1) := by decide +kernel
theorem d_MO_part_108 : decode b_MO_part 108 = .ok (.iadd, 1) := by decide +kernel
theorem d_MO_part_109 : decode b_MO_part 109 = .ok (.putfield 113, 3) := by decide +kernel
theorem d_MO_part_112 : decode b_MO_part 112 = .ok (.aload_n 0, 1) := by decide +kernel
theorem d_MO_part_113 : decode b_MO_part 113 = .ok (.iconst 0, 1) := by decide +kernel
theorem d_MO_part_114 : decode b_MO_part 114 = .ok (.putfield 109, 3) := by decide +kernel
theorem d_MO_part_117 : decode b_MO_part 117 = .ok (.aload_n 0, 1) := by decide +kernel
theorem d_MO_part_118 : decode b_MO_part 118 = .ok (.getfield 113, 3) := by decide +kernel
theorem d_MO_part_121 : decode b_MO_part 121 = .ok (.iconst 1, 1) := by decide +kernel
theorem d_MO_part_122 : decode b_MO_part 122 = .ok (.isub, 1) := by decide +kernel
theorem d_MO_part_123 : decode b_MO_part 123 = .ok (.ireturn, 1) := by decide +kernel
theorem d_MO_count_0 : decode b_MO_count 0 = .ok (.aload_n 0, 1) := by decide +kernel
theorem d_MO_count_1 : decode b_MO_count 1 = .ok (.iload_n 1, 1) := by decide +kernel
theorem d_MO_count_2 : decode b_MO_count 2 = .ok (.iconst 0, 1) := by decide +kernel
theorem d_MO_count_3 : decode b_MO_count 3 = .ok (.aload_n 0, 1) := by decide +kernel
theorem d_MO_count_4 : decode b_MO_count 4 = .ok (.getfield 113, 3) := by decide +kernel
theorem d_MO_count_7 : decode b_MO_count 7 = .ok (.iconst 1, 1) := by decide +kernel
theorem d_MO_count_8 : decode b_MO_count 8 = .ok (.isub, 1) := by decide +kernel
theorem d_MO_count_9 : decode b_MO_count 9 = .ok (.invokestatic 102, 3) := by decide +kernel
theorem d_MO_count_12 : decode b_MO_count 12 = .ok (.ifCond .ne 7, 3) := by decide +kernel
theorem d_MO_count_15 : decode b_MO_count 15 = .ok (.iconst 1, 1) := by decide +kernel
theorem d_MO_count_16 : decode b_MO_count 16 = .ok (.goto 18, 3) := by decide +kernel
theorem d_MO_count_19 : decode b_MO_count 19 = .ok (.iload_n 2, 1) := by decide +kernel
theorem d_MO_count_20 : decode b_MO_count 20 = .ok (.iconst 0, 1) := by decide +kernel
theorem d_MO_count_21 : decode b_MO_count 21 = .ok (.bipush 50, 2) := by decide +kernel
theorem d_MO_count_23 : decode b_MO_count 23 = .ok (.invokestatic 102, 3) := by decide +kernel
theorem d_MO_count_26 : decode b_MO_count 26 = .ok (.ifCond .ne 7, 3) := by decide +kernel
theorem d_MO_count_29 : decode b_MO_count 29 = .ok (.iconst 2, 1) := by decide +kernel
theorem d_MO_count_30 : decode b_MO_count 30 = .ok (.goto 4, 3) := by decide +kernel
theorem d_MO_count_33 : decode b_MO_count 33 = .ok (.iconst 0, 1) := by decide +kernel
theorem d_MO_count_34 : decode b_MO_count 34 = .ok (.putfield 99, 3) := by decide +kernel
theorem d_MO_count_37 : decode b_MO_count 37 = .ok (.aload_n 0, 1) := by decide +kernel
theorem d_MO_count_38 : decode b_MO_count 38 = .ok (.getfield 99, 3) := by decide +kernel
theorem d_MO_count_41 : decode b_MO_count 41 = .ok (.ifCond .le 5, 3) := by decide +kernel
theorem d_MO_count_44 : decode b_MO_count 44 = .ok (.iconst 0, 1) := by decide +kernel
theorem d_MO_count_45 : decode b_MO_count 45 = .ok (.ireturn, 1) := by decide +kernel
theorem d_MO_count_46 : decode b_MO_count 46 = .ok (.aload_n 0, 1) := by decide +kernel
theorem d_MO_count_47 : decode b_MO_count 47 = .ok (.getfield 28, 3) := by decide +kernel
theorem d_MO_count_50 : decode b_MO_count 50 = .ok (.iload_n 1, 1) := by decide +kernel
theorem d_MO_count_51 : decode b_MO_count 51 = .ok (.iaload, 1) := by decide +kernel
theorem d_MO_count_52 : decode b_MO_count 52 = .ok (.istore_n 3, 1) := by decide +kernel
theorem d_MO_count_53 : decode b_MO_count 53 = .ok (.aload_n 0, 1) := by decide +kernel
theorem d_MO_count_54 : decode b_MO_count 54 = .ok (.getfield 28, 3) := by decide +kernel
theorem d_MO_count_57 : decode b_MO_count 57 = .ok (.iload_n 1, 1) := by decide +kernel
theorem d_MO_count_58 : decode b_MO_count 58 = .ok (.iload_n 2, 1) := by decide +kernel
theorem d_MO_count_59 : decode b_MO_count 59 = .ok (.iastore, 1) := by decide +kernel
theorem d_MO_count_60 : decode b_MO_count 60 = .ok (.aload_n 0, 1) := by decide +kernel
theorem d_MO_count_61 : decode b_MO_count 61 = .ok (.iconst 0, 1) := by decide +kernel
theorem d_MO_count_62 : decode b_MO_count 62 = .ok (.putfield 109, 3) := by decide +kernel
theorem d_MO_count_65 : decode b_MO_count 65 = .ok (.iload_n 3, 1) := by decide +kernel
theorem d_MO_count_66 : decode b_MO_count 66 = .ok (.ireturn, 1) := by decide +kernel
theorem d_MO_place_0 : decode b_MO_place 0 = .ok (.sipush 289, 3) := by decide +kernel
theorem d_MO_place_3 : decode b_MO_place 3 = .ok (.iconst 2, 1) := by decide +kernel
theorem d_MO_place_4 : decode b_MO_place 4 = .ok (.iload_n 0, 1) := by decide +kernel
theorem d_MO_place_5 : decode b_MO_place 5 = .ok (.imul, 1) := by decide +kernel
theorem d_MO_place_6 : decode b_MO_place 6 = .ok (.iload_n 1, 1) := by decide +kernel
theorem d_MO_place_7 : decode b_MO_place 7 = .ok (.iadd, 1) := by decide +kernel
theorem d_MO_place_8 : decode b_MO_place 8 = .ok (.imul, 1) := by decide +kernel
theorem d_MO_place_9 : decode b_MO_place 9 = .ok (.bipush 17, 2) := by decide +kernel
theorem d_MO_place_11 : decode b_MO_place 11 = .ok (.iload_n 3, 1) := by decide +kernel
theorem d_MO_place_12 : decode b_MO_place 12 = .ok (.imul, 1) := by decide +kernel
theorem d_MO_place_13 : decode b_MO_place 13 = .ok (.iadd, 1) := by decide +kernel
theorem d_MO_place_14 : decode b_MO_place 14 = .ok (.iload_n 2, 1) := by decide +kernel
theorem d_MO_place_15 : decode b_MO_place 15 = .ok (.iadd, 1) := by decide +kernel
theorem d_MO_place_16 : decode b_MO_place 16 = .ok (.ireturn, 1) := by decide +kernel
theorem d_MO_isJust_0 : decode b_MO_isJust 0 = .ok (.aload_n 0, 1) := by decide +kernel
theorem d_MO_isJust_1 : decode b_MO_isJust 1 = .ok (.getfield 22, 3) := by decide +kernel
theorem d_MO_isJust_4 : decode b_MO_isJust 4 = .ok (.iload_n 1, 1) := by decide +kernel
theorem d_MO_isJust_5 : decode b_MO_isJust 5 = .ok (.iaload, 1) := by decide +kernel
theorem d_MO_isJust_6 : decode b_MO_isJust 6 = .ok (.iload_n 2, 1) := by decide +kernel
theorem d_MO_isJust_7 : decode b_MO_isJust 7 = .ok (.if_icmp .ne 13, 3) := by decide +kernel
theorem d_MO_isJust_10 : decode b_MO_isJust 10 = .ok (.aload_n 0, 1) := by decide +kernel
theorem d_MO_isJust_11 : decode b_MO_isJust 11 = .ok (.getfield 25, 3) := by decide +kernel
theorem d_MO_isJust_14 : decode b_MO_isJust 14 = .ok (.iload_n 1, 1) := by decide +kernel
theorem d_MO_isJust_15 : decode b_MO_isJust 15 = .ok (.iaload, 1) := by decide +kernel
theorem d_MO_isJust_16 : decode b_MO_isJust 16 = .ok (.iload_n 3, 1) := by decide +kernel
theorem d_MO_isJust_17 : decode b_MO_isJust 17 = .ok (.if_icmp .eq 32, 3) := by decide +kernel
theorem d_MO_isJust_20 : decode b_MO_isJust 20 = .ok (.aload_n 0, 1) := by decide +kernel
theorem d_MO_isJust_21 : decode b_MO_isJust 21 = .ok (.getfield 31, 3) := by decide +kernel
theorem d_MO_isJust_24 : decode b_MO_isJust 24 = .ok (.iload_n 1, 1) := by decide +kernel
theorem d_MO_isJust_25 : decode b_MO_isJust 25 = .ok (.baload, 1) := by decide +kernel
theorem d_MO_isJust_26 : decode b_MO_isJust 26 = .ok (.ifCond .eq 27, 3) := by decide +kernel
theorem d_MO_isJust_29 : decode b_MO_isJust 29 = .ok (.aload_n 0, 1) := by decide +kernel
theorem d_MO_isJust_30 : decode b_MO_isJust 30 = .ok (.getfield 22, 3) := by decide +kernel
theorem d_MO_isJust_33 : decode b_MO_isJust 33 = .ok (.iload_n 1, 1) := by decide +kernel
theorem d_MO_isJust_34 : decode b_MO_isJust 34 = .ok (.iaload, 1) := by decide +kernel
theorem d_MO_isJust_35 : decode b_MO_isJust 35 = .ok (.iload_n 3, 1) := by decide +kernel
theorem d_MO_isJust_36 : decode b_MO_isJust 36 = .ok (.if_icmp .ne 17, 3) := by decide +kernel
theorem d_MO_isJust_39 : decode b_MO_isJust 39 = .ok (.aload_n 0, 1) := by decide +kernel
theorem d_MO_isJust_40 : decode b_MO_isJust 40 = .ok (.getfield 25, 3) := by decide +kernel
theorem d_MO_isJust_43 : decode b_MO_isJust 43 = .ok (.iload_n 1, 1) := by decide +kernel
theorem d_MO_isJust_44 : decode b_MO_isJust 44 = .ok (.iaload, 1) := by decide +kernel
theorem d_MO_isJust_45 : decode b_MO_isJust 45 = .ok (.iload_n 2, 1) := by decide +kernel
theorem d_MO_isJust_46 : decode b_MO_isJust 46 = .ok (.if_icmp .ne 7, 3) := by decide +kernel
theorem d_MO_isJust_49 : decode b_MO_isJust 49 = .ok (.iconst 1, 1) := by decide +kernel
theorem d_MO_isJust_50 : decode b_MO_isJust 50 = .ok (.goto 4, 3) := by decide +kernel
theorem d_MO_isJust_53 : decode b_MO_isJust 53 = .ok (.iconst 0, 1) := by decide +kernel
theorem d_MO_isJust_54 : decode b_MO_isJust 54 = .ok (.ireturn, 1) := by decide +kernel
theorem d_MO_better_0 : decode b_MO_better 0 = .ok (.iload_n 2, 1) := by decide +kernel
theorem d_MO_better_1 : decode b_MO_better 1 = .ok (.aload_n 0, 1) := by decide +kernel
theorem d_MO_better_2 : decode b_MO_better 2 = .ok (.getfield 44, 3) := by decide +kernel
theorem d_MO_better_5 : decode b_MO_better 5 = .ok (.iload_n 1, 1) := by decide +kernel
theorem d_MO_better_6 : decode b_MO_better 6 = .ok (.iaload, 1) := by decide +kernel
theorem d_MO_better_7 : decode b_MO_better 7 = .ok (.if_icmp .gt 23, 3) := by decide +kernel
theorem d_MO_better_10 : decode b_MO_better 10 = .ok (.iload_n 2, 1) := by decide +kernel
theorem d_MO_better_11 : decode b_MO_better 11 = .ok (.aload_n 0, 1) := by decide +kernel
theorem d_MO_better_12 : decode b_MO_better 12 = .ok (.getfield 44, 3) := by decide +kernel
theorem d_MO_better_15 : decode b_MO_better 15 = .ok (.iload_n 1, 1) := by decide +kernel
theorem d_MO_better_16 : decode b_MO_better 16 = .ok (.iaload, 1) := by decide +kernel
theorem d_MO_better_17 : decode b_MO_better 17 = .ok (.if_icmp .ne 35, 3) := by decide +kernel
theorem d_MO_better_20 : decode b_MO_better 20 = .ok (.iload_n 3, 1) := by decide +kernel
theorem d_MO_better_21 : decode b_MO_better 21 = .ok (.aload_n 0, 1) := by decide +kernel
theorem d_MO_better_22 : decode b_MO_better 22 = .ok (.getfield 47, 3) := by decide +kernel
theorem d_MO_better_25 : decode b_MO_better 25 = .ok (.iload_n 1, 1) := by decide +kernel
theorem d_MO_better_26 : decode b_MO_better 26 = .ok (.iaload, 1) := by decide +kernel
theorem d_MO_better_27 : decode b_MO_better 27 = .ok (.if_icmp .ge 25, 3) := by decide +kernel
theorem d_MO_better_30 : decode b_MO_better 30 = .ok (.aload_n 0, 1) := by decide +kernel
theorem d_MO_better_31 : decode b_MO_better 31 = .ok (.getfield 44, 3) := by decide +kernel
theorem d_MO_better_34 : decode b_MO_better 34 = .ok (.iload_n 1, 1) := by decide +kernel
theorem d_MO_better_35 : decode b_MO_better 35 = .ok (.iload_n 2, 1) := by decide +kernel
theorem d_MO_better_36 : decode b_MO_better 36 = .ok (.iastore, 1) := by decide +kernel
theorem d_MO_better_37 : decode b_MO_better 37 = .ok (.aload_n 0, 1) := by decide +kernel
theorem d_MO_better_38 : decode b_MO_better 38 = .ok (.getfield 47, 3) := by decide +kernel
theorem d_MO_better_41 : decode b_MO_better 41 = .ok (.iload_n 1, 1) := by decide +kernel
theorem d_MO_better_42 : decode b_MO_better 42 = .ok (.iload_n 3, 1) := by decide +kernel
theorem d_MO_better_43 : decode b_MO_better 43 = .ok (.iastore, 1) := by decide +kernel
theorem d_MO_better_44 : decode b_MO_better 44 = .ok (.aload_n 0, 1) := by decide +kernel
theorem d_MO_better_45 : decode b_MO_better 45 = .ok (.getfield 50, 3) := by decide +kernel
theorem d_MO_better_48 : decode b_MO_better 48 = .ok (.iload_n 1, 1) := by decide +kernel
theorem d_MO_better_49 : decode b_MO_better 49 = .ok (.iload 4, 2) := by decide +kernel
theorem d_MO_better_51 : decode b_MO_better 51 = .ok (.iastore, 1) := by decide +kernel
theorem d_MO_better_52 : decode b_MO_better 52 = .ok (.return_, 1) := by decide +kernel
theorem d_MO_fillOne_0 : decode b_MO_fillOne 0 = .ok (.iload_n 1, 1) := by decide +kernel
theorem d_MO_fillOne_1 : decode b_MO_fillOne 1 = .ok (.iload_n 2, 1) := by decide +kernel
theorem d_MO_fillOne_2 : decode b_MO_fillOne 2 = .ok (.iload_n 3, 1) := by decide +kernel
theorem d_MO_fillOne_3 : decode b_MO_fillOne 3 = .ok (.iload 4, 2) := by decide +kernel
theorem d_MO_fillOne_5 : decode b_MO_fillOne 5 = .ok (.invokestatic 116, 3) := by decide +kernel
theorem d_MO_fillOne_8 : decode b_MO_fillOne 8 = .ok (.istore 5, 2) := by decide +kernel
theorem d_MO_fillOne_10 : decode b_MO_fillOne 10 = .ok (.aload_n 0, 1) := by decide +kernel
theorem d_MO_fillOne_11 : decode b_MO_fillOne 11 = .ok (.getfield 44, 3) := by decide +kernel
theorem d_MO_fillOne_14 : decode b_MO_fillOne 14 = .ok (.iload 5, 2) := by decide +kernel
theorem d_MO_fillOne_16 : decode b_MO_fillOne 16 = .ok (.iconst 0, 1) := by decide +kernel
theorem d_MO_fillOne_17 : decode b_MO_fillOne 17 = .ok (.iastore, 1) := by decide +kernel
theorem d_MO_fillOne_18 : decode b_MO_fillOne 18 = .ok (.aload_n 0, 1) := by decide +kernel
theorem d_MO_fillOne_19 : decode b_MO_fillOne 19 = .ok (.getfield 47, 3) := by decide +kernel
theorem d_MO_fillOne_22 : decode b_MO_fillOne 22 = .ok (.iload 5, 2) := by decide +kernel
theorem d_MO_fillOne_24 : decode b_MO_fillOne 24 = .ok (.iconst 0, 1) := by decide +kernel
theorem d_MO_fillOne_25 : decode b_MO_fillOne 25 = .ok (.iastore, 1) := by decide +kernel
theorem d_MO_fillOne_26 : decode b_MO_fillOne 26 = .ok (.aload_n 0, 1) := by decide +kernel
theorem d_MO_fillOne_27 : decode b_MO_fillOne 27 = .ok (.getfield 50, 3) := by decide +kernel
theorem d_MO_fillOne_30 : decode b_MO_fillOne 30 = .ok (.iload 5, 2) := by decide +kernel
theorem d_MO_fillOne_32 : decode b_MO_fillOne 32 = .ok (.iconst (-1), 1) := by decide +kernel
theorem d_MO_fillOne_33 : decode b_MO_fillOne 33 = .ok (.iastore, 1) := by decide +kernel
theorem d_MO_fillOne_34 : decode b_MO_fillOne 34 = .ok (.iconst 0, 1) := by decide +kernel
theorem d_MO_fillOne_35 : decode b_MO_fillOne 35 = .ok (.istore 6, 2) := by decide +kernel
theorem d_MO_fillOne_37 : decode b_MO_fillOne 37 = .ok (.iload 6, 2) := by decide +kernel
theorem d_MO_fillOne_39 : decode b_MO_fillOne 39 = .ok (.aload_n 0, 1) := by decide +kernel
theorem d_MO_fillOne_40 : decode b_MO_fillOne 40 = .ok (.getfield 113, 3) := by decide +kernel
theorem d_MO_fillOne_43 : decode b_MO_fillOne 43 = .ok (.if_icmp .ge 44, 3) := by decide +kernel
theorem d_MO_fillOne_46 : decode b_MO_fillOne 46 = .ok (.aload_n 0, 1) := by decide +kernel
theorem d_MO_fillOne_47 : decode b_MO_fillOne 47 = .ok (.getfield 35, 3) := by decide +kernel
theorem d_MO_fillOne_50 : decode b_MO_fillOne 50 = .ok (.iload 6, 2) := by decide +kernel
theorem d_MO_fillOne_52 : decode b_MO_fillOne 52 = .ok (.iaload, 1) := by decide +kernel
theorem d_MO_fillOne_53 : decode b_MO_fillOne 53 = .ok (.ifCond .le 28, 3) := by decide +kernel
theorem d_MO_fillOne_56 : decode b_MO_fillOne 56 = .ok (.aload_n 0, 1) := by decide +kernel
theorem d_MO_fillOne_57 : decode b_MO_fillOne 57 = .ok (.iload 6, 2) := by decide +kernel
theorem d_MO_fillOne_59 : decode b_MO_fillOne 59 = .ok (.iload_n 3, 1) := by decide +kernel
theorem d_MO_fillOne_60 : decode b_MO_fillOne 60 = .ok (.iload 4, 2) := by decide +kernel
theorem d_MO_fillOne_62 : decode b_MO_fillOne 62 = .ok (.invokevirtual 120, 3) := by decide +kernel
theorem d_MO_fillOne_65 : decode b_MO_fillOne 65 = .ok (.ifCond .eq 16, 3) := by decide +kernel
theorem d_MO_fillOne_68 : decode b_MO_fillOne 68 = .ok (.aload_n 0, 1) := by decide +kernel
theorem d_MO_fillOne_69 : decode b_MO_fillOne 69 = .ok (.iload 5, 2) := by decide +kernel
theorem d_MO_fillOne_71 : decode b_MO_fillOne 71 = .ok (.iload_n 3, 1) := by decide +kernel
theorem d_MO_fillOne_72 : decode b_MO_fillOne 72 = .ok (.iload 4, 2) := by decide +kernel
theorem d_MO_fillOne_74 : decode b_MO_fillOne 74 = .ok (.imul, 1) := by decide +kernel
theorem d_MO_fillOne_75 : decode b_MO_fillOne 75 = .ok (.iconst 0, 1) := by decide +kernel
theorem d_MO_fillOne_76 : decode b_MO_fillOne 76 = .ok (.iload 6, 2) := by decide +kernel
theorem d_MO_fillOne_78 : decode b_MO_fillOne 78 = .ok (.invokevirtual 123, 3) := by decide +kernel
theorem d_MO_fillOne_81 : decode b_MO_fillOne 81 = .ok (.iinc 6 1, 3) := by decide +kernel
theorem d_MO_fillOne_84 : decode b_MO_fillOne 84 = .ok (.goto (-47), 3) := by decide +kernel
theorem d_MO_fillOne_87 : decode b_MO_fillOne 87 = .ok (.iload_n 2, 1) := by decide +kernel
theorem d_MO_fillOne_88 : decode b_MO_fillOne 88 = .ok (.ifCond .ne 7, 3) := by decide +kernel
theorem d_MO_fillOne_91 : decode b_MO_fillOne 91 = .ok (.iload_n 3, 1) := by decide +kernel
theorem d_MO_fillOne_92 : decode b_MO_fillOne 92 = .ok (.goto 5, 3) := by decide +kernel
theorem d_MO_fillOne_95 : decode b_MO_fillOne 95 = .ok (.iload 4, 2) := by decide +kernel
theorem d_MO_fillOne_97 : decode b_MO_fillOne 97 = .ok (.istore 6, 2) := by decide +kernel
theorem d_MO_fillOne_99 : decode b_MO_fillOne 99 = .ok (.iconst 1, 1) := by decide +kernel
theorem d_MO_fillOne_100 : decode b_MO_fillOne 100 = .ok (.istore 7, 2) := by decide +kernel
theorem d_MO_fillOne_102 : decode b_MO_fillOne 102 = .ok (.iload 7, 2) := by decide +kernel
theorem d_MO_fillOne_104 : decode b_MO_fillOne 104 = .ok (.iload 6, 2) := by decide +kernel
theorem d_MO_fillOne_106 : decode b_MO_fillOne 106 = .ok (.if_icmp .ge 145, 3) := by decide +kernel
theorem d_MO_fillOne_109 : decode b_MO_fillOne 109 = .ok (.iload_n 1, 1) := by decide +kernel
theorem d_MO_fillOne_110 : decode b_MO_fillOne 110 = .ok (.ifCond .le 141, 3) := by decide +kernel
theorem d_MO_fillOne_113 : decode b_MO_fillOne 113 = .ok (.iload_n 2, 1) := by decide +kernel
theorem d_MO_fillOne_114 : decode b_MO_fillOne 114 = .ok (.ifCond .ne 17, 3) := by decide +kernel
theorem d_MO_fillOne_117 : decode b_MO_fillOne 117 = .ok (.iload_n 1, 1) := by decide +kernel
theorem d_MO_fillOne_118 : decode b_MO_fillOne 118 = .ok (.iconst 1, 1) := by decide +kernel
theorem d_MO_fillOne_119 : decode b_MO_fillOne 119 = .ok (.isub, 1) := by decide +kernel
theorem d_MO_fillOne_120 : decode b_MO_fillOne 120 = .ok (.iconst 1, 1) := by decide +kernel
theorem d_MO_fillOne_121 : decode b_MO_fillOne 121 = .ok (.iload 7, 2) := by decide +kernel
theorem d_MO_fillOne_123 : decode b_MO_fillOne 123 = .ok (.iload 4, 2) := by decide +kernel
theorem d_MO_fillOne_125 : decode b_MO_fillOne 125 = .ok (.invokestatic 116, 3) := by decide +kernel
theorem d_MO_fillOne_128 : decode b_MO_fillOne 128 = .ok (.goto 13, 3) := by decide +kernel
theorem d_MO_fillOne_131 : decode b_MO_fillOne 131 = .ok (.iload_n 1, 1) := by decide +kernel
theorem d_MO_fillOne_132 : decode b_MO_fillOne 132 = .ok (.iconst 1, 1) := by decide +kernel
theorem d_MO_fillOne_133 : decode b_MO_fillOne 133 = .ok (.isub, 1) := by decide +kernel
theorem d_MO_fillOne_134 : decode b_MO_fillOne 134 = .ok (.iconst 0, 1) := by decide +kernel
theorem d_MO_fillOne_135 : decode b_MO_fillOne 135 = .ok (.iload_n 3, 1) := by decide +kernel
theorem d_MO_fillOne_136 : decode b_MO_fillOne 136 = .ok (.iload 7, 2) := by decide +kernel
theorem d_MO_fillOne_138 : decode b_MO_fillOne 138 = .ok (.invokestatic 116, 3) := by decide +kernel
theorem d_MO_fillOne_141 : decode b_MO_fillOne 141 = .ok (.istore 8, 2) := by decide +kernel
theorem d_MO_fillOne_143 : decode b_MO_fillOne 143 = .ok (.iload 6, 2) := by decide +kernel
theorem d_MO_fillOne_145 : decode b_MO_fillOne 145 = .ok (.iload 7, 2) := by decide +kernel
theorem d_MO_fillOne_147 : decode b_MO_fillOne 147 = .ok (.isub, 1) := by decide +kernel
theorem d_MO_fillOne_148 : decode b_MO_fillOne 148 = .ok (.aload_n 0, 1) := by decide +kernel
theorem d_MO_fillOne_149 : decode b_MO_fillOne 149 = .ok (.getfield 89, 3) := by decide +kernel
theorem d_MO_fillOne_152 : decode b_MO_fillOne 152 = .ok (.isub, 1) := by decide +kernel
theorem d_MO_fillOne_153 : decode b_MO_fillOne 153 = .ok (.istore 9, 2) := by decide +kernel
theorem d_MO_fillOne_155 : decode b_MO_fillOne 155 = .ok (.aload_n 0, 1) := by decide +kernel
theorem d_MO_fillOne_156 : decode b_MO_fillOne 156 = .ok (.getfield 44, 3) := by decide +kernel
theorem d_MO_fillOne_159 : decode b_MO_fillOne 159 = .ok (.iload 8, 2) := by decide +kernel
theorem d_MO_fillOne_161 : decode b_MO_fillOne 161 = .ok (.iaload, 1) := by decide +kernel
theorem d_MO_fillOne_162 : decode b_MO_fillOne 162 = .ok (.istore 10, 2) := by decide +kernel
theorem d_MO_fillOne_164 : decode b_MO_fillOne 164 = .ok (.iconst 1, 1) := by decide +kernel
theorem d_MO_fillOne_165 : decode b_MO_fillOne 165 = .ok (.aload_n 0, 1) := by decide +kernel
theorem d_MO_fillOne_166 : decode b_MO_fillOne 166 = .ok (.getfield 47, 3) := by decide +kernel
theorem d_MO_fillOne_169 : decode b_MO_fillOne 169 = .ok (.iload 8, 2) := by decide +kernel
theorem d_MO_fillOne_171 : decode b_MO_fillOne 171 = .ok (.iaload, 1) := by decide +kernel
theorem d_MO_fillOne_172 : decode b_MO_fillOne 172 = .ok (.iadd, 1) := by decide +kernel
theorem d_MO_fillOne_173 : decode b_MO_fillOne 173 = .ok (.istore 11, 2) := by decide +kernel
theorem d_MO_fillOne_175 : decode b_MO_fillOne 175 = .ok (.iload 9, 2) := by decide +kernel
theorem d_MO_fillOne_177 : decode b_MO_fillOne 177 = .ok (.ifCond .le 53, 3) := by decide +kernel
theorem d_MO_fillOne_180 : decode b_MO_fillOne 180 = .ok (.iload_n 2, 1) := by decide +kernel
theorem d_MO_fillOne_181 : decode b_MO_fillOne 181 = .ok (.ifCond .ne 15, 3) := by decide +kernel
theorem d_MO_fillOne_184 : decode b_MO_fillOne 184 = .ok (.iload_n 1, 1) := by decide +kernel
theorem d_MO_fillOne_185 : decode b_MO_fillOne 185 = .ok (.iconst 0, 1) := by decide +kernel
theorem d_MO_fillOne_186 : decode b_MO_fillOne 186 = .ok (.iload 9, 2) := by decide +kernel
theorem d_MO_fillOne_188 : decode b_MO_fillOne 188 = .ok (.iload 4, 2) := by decide +kernel
theorem d_MO_fillOne_190 : decode b_MO_fillOne 190 = .ok (.invokestatic 116, 3) := by decide +kernel
theorem d_MO_fillOne_193 : decode b_MO_fillOne 193 = .ok (.goto 11, 3) := by decide +kernel
theorem d_MO_fillOne_196 : decode b_MO_fillOne 196 = .ok (.iload_n 1, 1) := by decide +kernel
theorem d_MO_fillOne_197 : decode b_MO_fillOne 197 = .ok (.iconst 1, 1) := by decide +kernel
theorem d_MO_fillOne_198 : decode b_MO_fillOne 198 = .ok (.iload_n 3, 1) := by decide +kernel
theorem d_MO_fillOne_199 : decode b_MO_fillOne 199 = .ok (.iload 9, 2) := by decide +kernel
theorem d_MO_fillOne_201 : decode b_MO_fillOne 201 = .ok (.invokestatic 116, 3) := by decide +kernel
theorem d_MO_fillOne_204 : decode b_MO_fillOne 204 = .ok (.istore 12, 2) := by decide +kernel
theorem d_MO_fillOne_206 : decode b_MO_fillOne 206 = .ok (.iload 10, 2) := by decide +kernel
theorem d_MO_fillOne_208 : decode b_MO_fillOne 208 = .ok (.aload_n 0, 1) := by decide +kernel
theorem d_MO_fillOne_209 : decode b_MO_fillOne 209 = .ok (.getfield 44, 3) := by decide +kernel
theorem d_MO_fillOne_212 : decode b_MO_fillOne 212 = .ok (.iload 12, 2) := by decide +kernel
theorem d_MO_fillOne_214 : decode b_MO_fillOne 214 = .ok (.iaload, 1) := by decide +kernel
theorem d_MO_fillOne_215 : decode b_MO_fillOne 215 = .ok (.iadd, 1) := by decide +kernel
theorem d_MO_fillOne_216 : decode b_MO_fillOne 216 = .ok (.istore 10, 2) := by decide +kernel
theorem d_MO_fillOne_218 : decode b_MO_fillOne 218 = .ok (.iload 11, 2) := by decide +kernel
theorem d_MO_fillOne_220 : decode b_MO_fillOne 220 = .ok (.aload_n 0, 1) := by decide +kernel
theorem d_MO_fillOne_221 : decode b_MO_fillOne 221 = .ok (.getfield 47, 3) := by decide +kernel
theorem d_MO_fillOne_224 : decode b_MO_fillOne 224 = .ok (.iload 12, 2) := by decide +kernel
theorem d_MO_fillOne_226 : decode b_MO_fillOne 226 = .ok (.iaload, 1) := by decide +kernel
theorem d_MO_fillOne_227 : decode b_MO_fillOne 227 = .ok (.iadd, 1) := by decide +kernel
theorem d_MO_fillOne_228 : decode b_MO_fillOne 228 = .ok (.istore 11, 2) := by decide +kernel
theorem d_MO_fillOne_230 : decode b_MO_fillOne 230 = .ok (.aload_n 0, 1) := by decide +kernel
theorem d_MO_fillOne_231 : decode b_MO_fillOne 231 = .ok (.iload 5, 2) := by decide +kernel
theorem d_MO_fillOne_233 : decode b_MO_fillOne 233 = .ok (.iload 10, 2) := by decide +kernel
theorem d_MO_fillOne_235 : decode b_MO_fillOne 235 = .ok (.iload 11, 2) := by decide +kernel
theorem d_MO_fillOne_237 : decode b_MO_fillOne 237 = .ok (.bipush 16, 2) := by decide +kernel
theorem d_MO_fillOne_239 : decode b_MO_fillOne 239 = .ok (.iload 7, 2) := by decide +kernel
theorem d_MO_fillOne_241 : decode b_MO_fillOne 241 = .ok (.iadd, 1) := by decide +kernel
theorem d_MO_fillOne_242 : decode b_MO_fillOne 242 = .ok (.invokevirtual 123, 3) := by decide +kernel
theorem d_MO_fillOne_245 : decode b_MO_fillOne 245 = .ok (.iinc 7 1, 3) := by decide +kernel
theorem d_MO_fillOne_248 : decode b_MO_fillOne 248 = .ok (.goto (-146), 3) := by decide +kernel
theorem d_MO_fillOne_251 : decode b_MO_fillOne 251 = .ok (.return_, 1) := by decide +kernel
theorem d_MO_fill_0 : decode b_MO_fill 0 = .ok (.iconst 0, 1) := by decide +kernel
theorem d_MO_fill_1 : decode b_MO_fill 1 = .ok (.istore_n 1, 1) := by decide +kernel
theorem d_MO_fill_2 : decode b_MO_fill 2 = .ok (.iload_n 1, 1) := by decide +kernel
theorem d_MO_fill_3 : decode b_MO_fill 3 = .ok (.iconst 4, 1) := by decide +kernel
theorem d_MO_fill_4 : decode b_MO_fill 4 = .ok (.if_icmp .ge 61, 3) := by decide +kernel
theorem d_MO_fill_7 : decode b_MO_fill 7 = .ok (.iconst 0, 1) := by decide +kernel
theorem d_MO_fill_8 : decode b_MO_fill 8 = .ok (.istore_n 2, 1) := by decide +kernel
theorem d_MO_fill_9 : decode b_MO_fill 9 = .ok (.iload_n 2, 1) := by decide +kernel
theorem d_MO_fill_10 : decode b_MO_fill 10 = .ok (.iconst 2, 1) := by decide +kernel
theorem d_MO_fill_11 : decode b_MO_fill 11 = .ok (.if_icmp .ge 48, 3) := by decide +kernel
theorem d_MO_fill_14 : decode b_MO_fill 14 = .ok (.iconst 1, 1) := by decide +kernel
theorem d_MO_fill_15 : decode b_MO_fill 15 = .ok (.istore_n 3, 1) := by decide +kernel
theorem d_MO_fill_16 : decode b_MO_fill 16 = .ok (.iload_n 3, 1) := by decide +kernel
theorem d_MO_fill_17 : decode b_MO_fill 17 = .ok (.bipush 17, 2) := by decide +kernel
theorem d_MO_fill_19 : decode b_MO_fill 19 = .ok (.if_icmp .ge 34, 3) := by decide +kernel
theorem d_MO_fill_22 : decode b_MO_fill 22 = .ok (.iconst 1, 1) := by decide +kernel
theorem d_MO_fill_23 : decode b_MO_fill 23 = .ok (.istore 4, 2) := by decide +kernel
theorem d_MO_fill_25 : decode b_MO_fill 25 = .ok (.iload 4, 2) := by decide +kernel
theorem d_MO_fill_27 : decode b_MO_fill 27 = .ok (.bipush 17, 2) := by decide +kernel
theorem d_MO_fill_29 : decode b_MO_fill 29 = .ok (.if_icmp .ge 18, 3) := by decide +kernel
theorem d_MO_fill_32 : decode b_MO_fill 32 = .ok (.aload_n 0, 1) := by decide +kernel
theorem d_MO_fill_33 : decode b_MO_fill 33 = .ok (.iload_n 1, 1) := by decide +kernel
theorem d_MO_fill_34 : decode b_MO_fill 34 = .ok (.iload_n 2, 1) := by decide +kernel
theorem d_MO_fill_35 : decode b_MO_fill 35 = .ok (.iload 4, 2) := by decide +kernel
theorem d_MO_fill_37 : decode b_MO_fill 37 = .ok (.iload_n 3, 1) := by decide +kernel
theorem d_MO_fill_38 : decode b_MO_fill 38 = .ok (.invokevirtual 127, 3) := by decide +kernel
theorem d_MO_fill_41 : decode b_MO_fill 41 = .ok (.iinc 4 1, 3) := by decide +kernel
theorem d_MO_fill_44 : decode b_MO_fill 44 = .ok (.goto (-19), 3) := by decide +kernel
theorem d_MO_fill_47 : decode b_MO_fill 47 = .ok (.iinc 3 1, 3) := by decide +kernel
theorem d_MO_fill_50 : decode b_MO_fill 50 = .ok (.goto (-34), 3) := by decide +kernel
theorem d_MO_fill_53 : decode b_MO_fill 53 = .ok (.iinc 2 1, 3) := by decide +kernel
theorem d_MO_fill_56 : decode b_MO_fill 56 = .ok (.goto (-47), 3) := by decide +kernel
theorem d_MO_fill_59 : decode b_MO_fill 59 = .ok (.iinc 1 1, 3) := by decide +kernel
theorem d_MO_fill_62 : decode b_MO_fill 62 = .ok (.goto (-60), 3) := by decide +kernel
theorem d_MO_fill_65 : decode b_MO_fill 65 = .ok (.return_, 1) := by decide +kernel
theorem d_MO_wantAll_0 : decode b_MO_wantAll 0 = .ok (.iconst 0, 1) := by decide +kernel
theorem d_MO_wantAll_1 : decode b_MO_wantAll 1 = .ok (.istore_n 1, 1) := by decide +kernel
theorem d_MO_wantAll_2 : decode b_MO_wantAll 2 = .ok (.iload_n 1, 1) := by decide +kernel
theorem d_MO_wantAll_3 : decode b_MO_wantAll 3 = .ok (.bipush 8, 2) := by decide +kernel
theorem d_MO_wantAll_5 : decode b_MO_wantAll 5 = .ok (.if_icmp .ge 33, 3) := by decide +kernel
theorem d_MO_wantAll_8 : decode b_MO_wantAll 8 = .ok (.aload_n 0, 1) := by decide +kernel
theorem d_MO_wantAll_9 : decode b_MO_wantAll 9 = .ok (.getfield 35, 3) := by decide +kernel
theorem d_MO_wantAll_12 : decode b_MO_wantAll 12 = .ok (.iload_n 1, 1) := by decide +kernel
theorem d_MO_wantAll_13 : decode b_MO_wantAll 13 = .ok (.iload_n 1, 1) := by decide +kernel
theorem d_MO_wantAll_14 : decode b_MO_wantAll 14 = .ok (.aload_n 0, 1) := by decide +kernel
theorem d_MO_wantAll_15 : decode b_MO_wantAll 15 = .ok (.getfield 113, 3) := by decide +kernel
theorem d_MO_wantAll_18 : decode b_MO_wantAll 18 = .ok (.if_icmp .ge 12, 3) := by decide +kernel
theorem d_MO_wantAll_21 : decode b_MO_wantAll 21 = .ok (.aload_n 0, 1) := by decide +kernel
theorem d_MO_wantAll_22 : decode b_MO_wantAll 22 = .ok (.getfield 28, 3) := by decide +kernel
theorem d_MO_wantAll_25 : decode b_MO_wantAll 25 = .ok (.iload_n 1, 1) := by decide +kernel
theorem d_MO_wantAll_26 : decode b_MO_wantAll 26 = .ok (.iaload, 1) := by decide +kernel
theorem d_MO_wantAll_27 : decode b_MO_wantAll 27 = .ok (.goto 4, 3) := by decide +kernel
theorem d_MO_wantAll_30 : decode b_MO_wantAll 30 = .ok (.iconst 0, 1) := by decide +kernel
theorem d_MO_wantAll_31 : decode b_MO_wantAll 31 = .ok (.iastore, 1) := by decide +kernel
theorem d_MO_wantAll_32 : decode b_MO_wantAll 32 = .ok (.iinc 1 1, 3) := by decide +kernel
theorem d_MO_wantAll_35 : decode b_MO_wantAll 35 = .ok (.goto (-33), 3) := by decide +kernel
theorem d_MO_wantAll_38 : decode b_MO_wantAll 38 = .ok (.return_, 1) := by decide +kernel
theorem d_MO_worth_0 : decode b_MO_worth 0 = .ok (.aload_n 0, 1) := by decide +kernel
theorem d_MO_worth_1 : decode b_MO_worth 1 = .ok (.iload_n 1, 1) := by decide +kernel
theorem d_MO_worth_2 : decode b_MO_worth 2 = .ok (.iconst 1, 1) := by decide +kernel
theorem d_MO_worth_3 : decode b_MO_worth 3 = .ok (.bipush 16, 2) := by decide +kernel
theorem d_MO_worth_5 : decode b_MO_worth 5 = .ok (.invokestatic 102, 3) := by decide +kernel
theorem d_MO_worth_8 : decode b_MO_worth 8 = .ok (.ifCond .eq 36, 3) := by decide +kernel
theorem d_MO_worth_11 : decode b_MO_worth 11 = .ok (.iload_n 2, 1) := by decide +kernel
theorem d_MO_worth_12 : decode b_MO_worth 12 = .ok (.iconst 1, 1) := by decide +kernel
theorem d_MO_worth_13 : decode b_MO_worth 13 = .ok (.bipush 16, 2) := by decide +kernel
theorem d_MO_worth_15 : decode b_MO_worth 15 = .ok (.invokestatic 102, 3) := by decide +kernel
theorem d_MO_worth_18 : decode b_MO_worth 18 = .ok (.ifCond .eq 26, 3) := by decide +kernel
theorem d_MO_worth_21 : decode b_MO_worth 21 = .ok (.iload_n 3, 1) := by decide +kernel
theorem d_MO_worth_22 : decode b_MO_worth 22 = .ok (.iconst 0, 1) := by decide +kernel
theorem d_MO_worth_23 : decode b_MO_worth 23 = .ok (.iconst 1, 1) := by decide +kernel
theorem d_MO_worth_24 : decode b_MO_worth 24 = .ok (.invokestatic 102, 3) := by decide +kernel
theorem d_MO_worth_27 : decode b_MO_worth 27 = .ok (.ifCond .eq 17, 3) := by decide +kernel
theorem d_MO_worth_30 : decode b_MO_worth 30 = .ok (.iload 4, 2) := by decide +kernel
theorem d_MO_worth_32 : decode b_MO_worth 32 = .ok (.iconst 0, 1) := by decide +kernel
theorem d_MO_worth_33 : decode b_MO_worth 33 = .ok (.iconst 3, 1) := by decide +kernel
theorem d_MO_worth_34 : decode b_MO_worth 34 = .ok (.invokestatic 102, 3) := by decide +kernel
theorem d_MO_worth_37 : decode b_MO_worth 37 = .ok (.ifCond .eq 7, 3) := by decide +kernel
theorem d_MO_worth_40 : decode b_MO_worth 40 = .ok (.iconst 0, 1) := by decide +kernel
theorem d_MO_worth_41 : decode b_MO_worth 41 = .ok (.goto 4, 3) := by decide +kernel
theorem d_MO_worth_44 : decode b_MO_worth 44 = .ok (.iconst 1, 1) := by decide +kernel
theorem d_MO_worth_45 : decode b_MO_worth 45 = .ok (.putfield 99, 3) := by decide +kernel
theorem d_MO_worth_48 : decode b_MO_worth 48 = .ok (.aload_n 0, 1) := by decide +kernel
theorem d_MO_worth_49 : decode b_MO_worth 49 = .ok (.getfield 99, 3) := by decide +kernel
theorem d_MO_worth_52 : decode b_MO_worth 52 = .ok (.ifCond .le 5, 3) := by decide +kernel
theorem d_MO_worth_55 : decode b_MO_worth 55 = .ok (.iconst 0, 1) := by decide +kernel
theorem d_MO_worth_56 : decode b_MO_worth 56 = .ok (.ireturn, 1) := by decide +kernel
theorem d_MO_worth_57 : decode b_MO_worth 57 = .ok (.iconst 0, 1) := by decide +kernel
theorem d_MO_worth_58 : decode b_MO_worth 58 = .ok (.istore 5, 2) := by decide +kernel
theorem d_MO_worth_60 : decode b_MO_worth 60 = .ok (.iload 5, 2) := by decide +kernel
theorem d_MO_worth_62 : decode b_MO_worth 62 = .ok (.bipush 8, 2) := by decide +kernel
theorem d_MO_worth_64 : decode b_MO_worth 64 = .ok (.if_icmp .ge 23, 3) := by decide +kernel
theorem d_MO_worth_67 : decode b_MO_worth 67 = .ok (.aload_n 0, 1) := by decide +kernel
theorem d_MO_worth_68 : decode b_MO_worth 68 = .ok (.getfield 41, 3) := by decide +kernel
theorem d_MO_worth_71 : decode b_MO_worth 71 = .ok (.iload 5, 2) := by decide +kernel
theorem d_MO_worth_73 : decode b_MO_worth 73 = .ok (.aload_n 0, 1) := by decide +kernel
theorem d_MO_worth_74 : decode b_MO_worth 74 = .ok (.getfield 35, 3) := by decide +kernel
theorem d_MO_worth_77 : decode b_MO_worth 77 = .ok (.iload 5, 2) := by decide +kernel
theorem d_MO_worth_79 : decode b_MO_worth 79 = .ok (.iaload, 1) := by decide +kernel
theorem d_MO_worth_80 : decode b_MO_worth 80 = .ok (.iastore, 1) := by decide +kernel
theorem d_MO_worth_81 : decode b_MO_worth 81 = .ok (.iinc 5 1, 3) := by decide +kernel
theorem d_MO_worth_84 : decode b_MO_worth 84 = .ok (.goto (-24), 3) := by decide +kernel
theorem d_MO_worth_87 : decode b_MO_worth 87 = .ok (.aload_n 0, 1) := by decide +kernel
theorem d_MO_worth_88 : decode b_MO_worth 88 = .ok (.invokevirtual 130, 3) := by decide +kernel
theorem d_MO_worth_91 : decode b_MO_worth 91 = .ok (.aload_n 0, 1) := by decide +kernel
theorem d_MO_worth_92 : decode b_MO_worth 92 = .ok (.invokevirtual 133, 3) := by decide +kernel
theorem d_MO_worth_95 : decode b_MO_worth 95 = .ok (.iconst 0, 1) := by decide +kernel
theorem d_MO_worth_96 : decode b_MO_worth 96 = .ok (.istore 5, 2) := by decide +kernel
theorem d_MO_worth_98 : decode b_MO_worth 98 = .ok (.iload 5, 2) := by decide +kernel
theorem d_MO_worth_100 : decode b_MO_worth 100 = .ok (.bipush 8, 2) := by decide +kernel
theorem d_MO_worth_102 : decode b_MO_worth 102 = .ok (.if_icmp .ge 23, 3) := by decide +kernel
theorem d_MO_worth_105 : decode b_MO_worth 105 = .ok (.aload_n 0, 1) := by decide +kernel
theorem d_MO_worth_106 : decode b_MO_worth 106 = .ok (.getfield 35, 3) := by decide +kernel
theorem d_MO_worth_109 : decode b_MO_worth 109 = .ok (.iload 5, 2) := by decide +kernel
theorem d_MO_worth_111 : decode b_MO_worth 111 = .ok (.aload_n 0, 1) := by decide +kernel
theorem d_MO_worth_112 : decode b_MO_worth 112 = .ok (.getfield 41, 3) := by decide +kernel
theorem d_MO_worth_115 : decode b_MO_worth 115 = .ok (.iload 5, 2) := by decide +kernel
theorem d_MO_worth_117 : decode b_MO_worth 117 = .ok (.iaload, 1) := by decide +kernel
theorem d_MO_worth_118 : decode b_MO_worth 118 = .ok (.iastore, 1) := by decide +kernel
theorem d_MO_worth_119 : decode b_MO_worth 119 = .ok (.iinc 5 1, 3) := by decide +kernel
theorem d_MO_worth_122 : decode b_MO_worth 122 = .ok (.goto (-24), 3) := by decide +kernel
theorem d_MO_worth_125 : decode b_MO_worth 125 = .ok (.aload_n 0, 1) := by decide +kernel
theorem d_MO_worth_126 : decode b_MO_worth 126 = .ok (.getfield 44, 3) := by decide +kernel
theorem d_MO_worth_129 : decode b_MO_worth 129 = .ok (.iload 4, 2) := by decide +kernel
theorem d_MO_worth_131 : decode b_MO_worth 131 = .ok (.iload_n 3, 1) := by decide +kernel
theorem d_MO_worth_132 : decode b_MO_worth 132 = .ok (.iload_n 1, 1) := by decide +kernel
theorem d_MO_worth_133 : decode b_MO_worth 133 = .ok (.iload_n 2, 1) := by decide +kernel
theorem d_MO_worth_134 : decode b_MO_worth 134 = .ok (.invokestatic 116, 3) := by decide +kernel
theorem d_MO_worth_137 : decode b_MO_worth 137 = .ok (.iaload, 1) := by decide +kernel
theorem d_MO_worth_138 : decode b_MO_worth 138 = .ok (.ireturn, 1) := by decide +kernel
theorem d_MO_wayOf_0 : decode b_MO_wayOf 0 = .ok (.aload_n 0, 1) := by decide +kernel
theorem d_MO_wayOf_1 : decode b_MO_wayOf 1 = .ok (.getfield 93, 3) := by decide +kernel
theorem d_MO_wayOf_4 : decode b_MO_wayOf 4 = .ok (.iconst 0, 1) := by decide +kernel
theorem d_MO_wayOf_5 : decode b_MO_wayOf 5 = .ok (.aload_n 0, 1) := by decide +kernel
theorem d_MO_wayOf_6 : decode b_MO_wayOf 6 = .ok (.getfield 7, 3) := by decide +kernel
theorem d_MO_wayOf_9 : decode b_MO_wayOf 9 = .ok (.iload_n 1, 1) := by decide +kernel
theorem d_MO_wayOf_10 : decode b_MO_wayOf 10 = .ok (.iaload, 1) := by decide +kernel
theorem d_MO_wayOf_11 : decode b_MO_wayOf 11 = .ok (.aload_n 0, 1) := by decide +kernel
theorem d_MO_wayOf_12 : decode b_MO_wayOf 12 = .ok (.getfield 13, 3) := by decide +kernel
theorem d_MO_wayOf_15 : decode b_MO_wayOf 15 = .ok (.iload_n 1, 1) := by decide +kernel
theorem d_MO_wayOf_16 : decode b_MO_wayOf 16 = .ok (.iaload, 1) := by decide +kernel
theorem d_MO_wayOf_17 : decode b_MO_wayOf 17 = .ok (.invokestatic 116, 3) := by decide +kernel
theorem d_MO_wayOf_20 : decode b_MO_wayOf 20 = .ok (.istore_n 2, 1) := by decide +kernel
theorem d_MO_wayOf_21 : decode b_MO_wayOf 21 = .ok (.aload_n 0, 1) := by decide +kernel
theorem d_MO_wayOf_22 : decode b_MO_wayOf 22 = .ok (.getfield 93, 3) := by decide +kernel
theorem d_MO_wayOf_25 : decode b_MO_wayOf 25 = .ok (.iconst 1, 1) := by decide +kernel
theorem d_MO_wayOf_26 : decode b_MO_wayOf 26 = .ok (.aload_n 0, 1) := by decide +kernel
theorem d_MO_wayOf_27 : decode b_MO_wayOf 27 = .ok (.getfield 7, 3) := by decide +kernel
theorem d_MO_wayOf_30 : decode b_MO_wayOf 30 = .ok (.iload_n 1, 1) := by decide +kernel
theorem d_MO_wayOf_31 : decode b_MO_wayOf 31 = .ok (.iaload, 1) := by decide +kernel
theorem d_MO_wayOf_32 : decode b_MO_wayOf 32 = .ok (.aload_n 0, 1) := by decide +kernel
theorem d_MO_wayOf_33 : decode b_MO_wayOf 33 = .ok (.getfield 13, 3) := by decide +kernel
theorem d_MO_wayOf_36 : decode b_MO_wayOf 36 = .ok (.iload_n 1, 1) := by decide +kernel
theorem d_MO_wayOf_37 : decode b_MO_wayOf 37 = .ok (.iaload, 1) := by decide +kernel
theorem d_MO_wayOf_38 : decode b_MO_wayOf 38 = .ok (.invokestatic 116, 3) := by decide +kernel
theorem d_MO_wayOf_41 : decode b_MO_wayOf 41 = .ok (.istore_n 3, 1) := by decide +kernel
theorem d_MO_wayOf_42 : decode b_MO_wayOf 42 = .ok (.aload_n 0, 1) := by decide +kernel
theorem d_MO_wayOf_43 : decode b_MO_wayOf 43 = .ok (.getfield 44, 3) := by decide +kernel
theorem d_MO_wayOf_46 : decode b_MO_wayOf 46 = .ok (.iload_n 3, 1) := by decide +kernel
theorem d_MO_wayOf_47 : decode b_MO_wayOf 47 = .ok (.iaload, 1) := by decide +kernel
theorem d_MO_wayOf_48 : decode b_MO_wayOf 48 = .ok (.aload_n 0, 1) := by decide +kernel
theorem d_MO_wayOf_49 : decode b_MO_wayOf 49 = .ok (.getfield 44, 3) := by decide +kernel
theorem d_MO_wayOf_52 : decode b_MO_wayOf 52 = .ok (.iload_n 2, 1) := by decide +kernel
theorem d_MO_wayOf_53 : decode b_MO_wayOf 53 = .ok (.iaload, 1) := by decide +kernel
theorem d_MO_wayOf_54 : decode b_MO_wayOf 54 = .ok (.if_icmp .gt 33, 3) := by decide +kernel
theorem d_MO_wayOf_57 : decode b_MO_wayOf 57 = .ok (.aload_n 0, 1) := by decide +kernel
theorem d_MO_wayOf_58 : decode b_MO_wayOf 58 = .ok (.getfield 44, 3) := by decide +kernel
theorem d_MO_wayOf_61 : decode b_MO_wayOf 61 = .ok (.iload_n 3, 1) := by decide +kernel
theorem d_MO_wayOf_62 : decode b_MO_wayOf 62 = .ok (.iaload, 1) := by decide +kernel
theorem d_MO_wayOf_63 : decode b_MO_wayOf 63 = .ok (.aload_n 0, 1) := by decide +kernel
theorem d_MO_wayOf_64 : decode b_MO_wayOf 64 = .ok (.getfield 44, 3) := by decide +kernel
theorem d_MO_wayOf_67 : decode b_MO_wayOf 67 = .ok (.iload_n 2, 1) := by decide +kernel
theorem d_MO_wayOf_68 : decode b_MO_wayOf 68 = .ok (.iaload, 1) := by decide +kernel
theorem d_MO_wayOf_69 : decode b_MO_wayOf 69 = .ok (.if_icmp .ne 22, 3) := by decide +kernel
theorem d_MO_wayOf_72 : decode b_MO_wayOf 72 = .ok (.aload_n 0, 1) := by decide +kernel
theorem d_MO_wayOf_73 : decode b_MO_wayOf 73 = .ok (.getfield 47, 3) := by decide +kernel
theorem d_MO_wayOf_76 : decode b_MO_wayOf 76 = .ok (.iload_n 3, 1) := by decide +kernel
theorem d_MO_wayOf_77 : decode b_MO_wayOf 77 = .ok (.iaload, 1) := by decide +kernel
theorem d_MO_wayOf_78 : decode b_MO_wayOf 78 = .ok (.aload_n 0, 1) := by decide +kernel
theorem d_MO_wayOf_79 : decode b_MO_wayOf 79 = .ok (.getfield 47, 3) := by decide +kernel
theorem d_MO_wayOf_82 : decode b_MO_wayOf 82 = .ok (.iload_n 2, 1) := by decide +kernel
theorem d_MO_wayOf_83 : decode b_MO_wayOf 83 = .ok (.iaload, 1) := by decide +kernel
theorem d_MO_wayOf_84 : decode b_MO_wayOf 84 = .ok (.if_icmp .ge 7, 3) := by decide +kernel
theorem d_MO_wayOf_87 : decode b_MO_wayOf 87 = .ok (.iconst 1, 1) := by decide +kernel
theorem d_MO_wayOf_88 : decode b_MO_wayOf 88 = .ok (.goto 4, 3) := by decide +kernel
theorem d_MO_wayOf_91 : decode b_MO_wayOf 91 = .ok (.iconst 0, 1) := by decide +kernel
theorem d_MO_wayOf_92 : decode b_MO_wayOf 92 = .ok (.ireturn, 1) := by decide +kernel
theorem d_MO_push_0 : decode b_MO_push 0 = .ok (.aload_n 0, 1) := by decide +kernel
theorem d_MO_push_1 : decode b_MO_push 1 = .ok (.getfield 53, 3) := by decide +kernel
theorem d_MO_push_4 : decode b_MO_push 4 = .ok (.bipush 6, 2) := by decide +kernel
theorem d_MO_push_6 : decode b_MO_push 6 = .ok (.iload_n 1, 1) := by decide +kernel
theorem d_MO_push_7 : decode b_MO_push 7 = .ok (.imul, 1) := by decide +kernel
theorem d_MO_push_8 : decode b_MO_push 8 = .ok (.iload_n 2, 1) := by decide +kernel
theorem d_MO_push_9 : decode b_MO_push 9 = .ok (.iastore, 1) := by decide +kernel
theorem d_MO_push_10 : decode b_MO_push 10 = .ok (.aload_n 0, 1) := by decide +kernel
theorem d_MO_push_11 : decode b_MO_push 11 = .ok (.getfield 53, 3) := by decide +kernel
theorem d_MO_push_14 : decode b_MO_push 14 = .ok (.bipush 6, 2) := by decide +kernel
theorem d_MO_push_16 : decode b_MO_push 16 = .ok (.iload_n 1, 1) := by decide +kernel
theorem d_MO_push_17 : decode b_MO_push 17 = .ok (.imul, 1) := by decide +kernel
theorem d_MO_push_18 : decode b_MO_push 18 = .ok (.iconst 1, 1) := by decide +kernel
theorem d_MO_push_19 : decode b_MO_push 19 = .ok (.iadd, 1) := by decide +kernel
theorem d_MO_push_20 : decode b_MO_push 20 = .ok (.iload_n 3, 1) := by decide +kernel
theorem d_MO_push_21 : decode b_MO_push 21 = .ok (.iastore, 1) := by decide +kernel
theorem d_MO_push_22 : decode b_MO_push 22 = .ok (.aload_n 0, 1) := by decide +kernel
theorem d_MO_push_23 : decode b_MO_push 23 = .ok (.getfield 53, 3) := by decide +kernel
theorem d_MO_push_26 : decode b_MO_push 26 = .ok (.bipush 6, 2) := by decide +kernel
theorem d_MO_push_28 : decode b_MO_push 28 = .ok (.iload_n 1, 1) := by decide +kernel
theorem d_MO_push_29 : decode b_MO_push 29 = .ok (.imul, 1) := by decide +kernel
theorem d_MO_push_30 : decode b_MO_push 30 = .ok (.iconst 2, 1) := by decide +kernel
theorem d_MO_push_31 : decode b_MO_push 31 = .ok (.iadd, 1) := by decide +kernel
theorem d_MO_push_32 : decode b_MO_push 32 = .ok (.iload 4, 2) := by decide +kernel
theorem d_MO_push_34 : decode b_MO_push 34 = .ok (.iastore, 1) := by decide +kernel
theorem d_MO_push_35 : decode b_MO_push 35 = .ok (.aload_n 0, 1) := by decide +kernel
theorem d_MO_push_36 : decode b_MO_push 36 = .ok (.getfield 53, 3) := by decide +kernel
theorem d_MO_push_39 : decode b_MO_push 39 = .ok (.bipush 6, 2) := by decide +kernel
theorem d_MO_push_41 : decode b_MO_push 41 = .ok (.iload_n 1, 1) := by decide +kernel
theorem d_MO_push_42 : decode b_MO_push 42 = .ok (.imul, 1) := by decide +kernel
theorem d_MO_push_43 : decode b_MO_push 43 = .ok (.iconst 3, 1) := by decide +kernel
theorem d_MO_push_44 : decode b_MO_push 44 = .ok (.iadd, 1) := by decide +kernel
theorem d_MO_push_45 : decode b_MO_push 45 = .ok (.iload 5, 2) := by decide +kernel
theorem d_MO_push_47 : decode b_MO_push 47 = .ok (.iastore, 1) := by decide +kernel
theorem d_MO_push_48 : decode b_MO_push 48 = .ok (.aload_n 0, 1) := by decide +kernel
theorem d_MO_push_49 : decode b_MO_push 49 = .ok (.getfield 53, 3) := by decide +kernel
theorem d_MO_push_52 : decode b_MO_push 52 = .ok (.bipush 6, 2) := by decide +kernel
theorem d_MO_push_54 : decode b_MO_push 54 = .ok (.iload_n 1, 1) := by decide +kernel
theorem d_MO_push_55 : decode b_MO_push 55 = .ok (.imul, 1) := by decide +kernel
theorem d_MO_push_56 : decode b_MO_push 56 = .ok (.iconst 4, 1) := by decide +kernel
theorem d_MO_push_57 : decode b_MO_push 57 = .ok (.iadd, 1) := by decide +kernel
theorem d_MO_push_58 : decode b_MO_push 58 = .ok (.iload 6, 2) := by decide +kernel
theorem d_MO_push_60 : decode b_MO_push 60 = .ok (.iastore, 1) := by decide +kernel
theorem d_MO_push_61 : decode b_MO_push 61 = .ok (.aload_n 0, 1) := by decide +kernel
theorem d_MO_push_62 : decode b_MO_push 62 = .ok (.getfield 53, 3) := by decide +kernel
theorem d_MO_push_65 : decode b_MO_push 65 = .ok (.bipush 6, 2) := by decide +kernel
theorem d_MO_push_67 : decode b_MO_push 67 = .ok (.iload_n 1, 1) := by decide +kernel
theorem d_MO_push_68 : decode b_MO_push 68 = .ok (.imul, 1) := by decide +kernel
theorem d_MO_push_69 : decode b_MO_push 69 = .ok (.iconst 5, 1) := by decide +kernel
theorem d_MO_push_70 : decode b_MO_push 70 = .ok (.iadd, 1) := by decide +kernel
theorem d_MO_push_71 : decode b_MO_push 71 = .ok (.iload 7, 2) := by decide +kernel
theorem d_MO_push_73 : decode b_MO_push 73 = .ok (.iastore, 1) := by decide +kernel
theorem d_MO_push_74 : decode b_MO_push 74 = .ok (.return_, 1) := by decide +kernel
theorem d_MO_walk_0 : decode b_MO_walk 0 = .ok (.iconst 0, 1) := by decide +kernel
theorem d_MO_walk_1 : decode b_MO_walk 1 = .ok (.istore_n 3, 1) := by decide +kernel
theorem d_MO_walk_2 : decode b_MO_walk 2 = .ok (.iload_n 3, 1) := by decide +kernel
theorem d_MO_walk_3 : decode b_MO_walk 3 = .ok (.bipush 8, 2) := by decide +kernel
theorem d_MO_walk_5 : decode b_MO_walk 5 = .ok (.if_icmp .ge 21, 3) := by decide +kernel
theorem d_MO_walk_8 : decode b_MO_walk 8 = .ok (.aload_n 0, 1) := by decide +kernel
theorem d_MO_walk_9 : decode b_MO_walk 9 = .ok (.getfield 41, 3) := by decide +kernel
theorem d_MO_walk_12 : decode b_MO_walk 12 = .ok (.iload_n 3, 1) := by decide +kernel
theorem d_MO_walk_13 : decode b_MO_walk 13 = .ok (.aload_n 0, 1) := by decide +kernel
theorem d_MO_walk_14 : decode b_MO_walk 14 = .ok (.getfield 35, 3) := by decide +kernel
theorem d_MO_walk_17 : decode b_MO_walk 17 = .ok (.iload_n 3, 1) := by decide +kernel
theorem d_MO_walk_18 : decode b_MO_walk 18 = .ok (.iaload, 1) := by decide +kernel
theorem d_MO_walk_19 : decode b_MO_walk 19 = .ok (.iastore, 1) := by decide +kernel
theorem d_MO_walk_20 : decode b_MO_walk 20 = .ok (.iinc 3 1, 3) := by decide +kernel
theorem d_MO_walk_23 : decode b_MO_walk 23 = .ok (.goto (-21), 3) := by decide +kernel
theorem d_MO_walk_26 : decode b_MO_walk 26 = .ok (.aload_n 0, 1) := by decide +kernel
theorem d_MO_walk_27 : decode b_MO_walk 27 = .ok (.getfield 56, 3) := by decide +kernel
theorem d_MO_walk_30 : decode b_MO_walk 30 = .ok (.iload_n 2, 1) := by decide +kernel
theorem d_MO_walk_31 : decode b_MO_walk 31 = .ok (.iload_n 1, 1) := by decide +kernel
theorem d_MO_walk_32 : decode b_MO_walk 32 = .ok (.iastore, 1) := by decide +kernel
theorem d_MO_walk_33 : decode b_MO_walk 33 = .ok (.aload_n 0, 1) := by decide +kernel
theorem d_MO_walk_34 : decode b_MO_walk 34 = .ok (.getfield 59, 3) := by decide +kernel
theorem d_MO_walk_37 : decode b_MO_walk 37 = .ok (.iload_n 2, 1) := by decide +kernel
theorem d_MO_walk_38 : decode b_MO_walk 38 = .ok (.aload_n 0, 1) := by decide +kernel
theorem d_MO_walk_39 : decode b_MO_walk 39 = .ok (.iload_n 1, 1) := by decide +kernel
theorem d_MO_walk_40 : decode b_MO_walk 40 = .ok (.invokevirtual 136, 3) := by decide +kernel
theorem d_MO_walk_43 : decode b_MO_walk 43 = .ok (.iastore, 1) := by decide +kernel
theorem d_MO_walk_44 : decode b_MO_walk 44 = .ok (.aload_n 0, 1) := by decide +kernel
theorem d_MO_walk_45 : decode b_MO_walk 45 = .ok (.getfield 62, 3) := by decide +kernel
theorem d_MO_walk_48 : decode b_MO_walk 48 = .ok (.iload_n 2, 1) := by decide +kernel
theorem d_MO_walk_49 : decode b_MO_walk 49 = .ok (.iconst 0, 1) := by decide +kernel
theorem d_MO_walk_50 : decode b_MO_walk 50 = .ok (.iastore, 1) := by decide +kernel
theorem d_MO_walk_51 : decode b_MO_walk 51 = .ok (.aload_n 0, 1) := by decide +kernel
theorem d_MO_walk_52 : decode b_MO_walk 52 = .ok (.getfield 65, 3) := by decide +kernel
theorem d_MO_walk_55 : decode b_MO_walk 55 = .ok (.iload_n 2, 1) := by decide +kernel
theorem d_MO_walk_56 : decode b_MO_walk 56 = .ok (.iconst 0, 1) := by decide +kernel
theorem d_MO_walk_57 : decode b_MO_walk 57 = .ok (.iastore, 1) := by decide +kernel
theorem d_MO_walk_58 : decode b_MO_walk 58 = .ok (.aload_n 0, 1) := by decide +kernel
theorem d_MO_walk_59 : decode b_MO_walk 59 = .ok (.getfield 68, 3) := by decide +kernel
theorem d_MO_walk_62 : decode b_MO_walk 62 = .ok (.iload_n 2, 1) := by decide +kernel
theorem d_MO_walk_63 : decode b_MO_walk 63 = .ok (.iconst 0, 1) := by decide +kernel
theorem d_MO_walk_64 : decode b_MO_walk 64 = .ok (.iastore, 1) := by decide +kernel
theorem d_MO_walk_65 : decode b_MO_walk 65 = .ok (.aload_n 0, 1) := by decide +kernel
theorem d_MO_walk_66 : decode b_MO_walk 66 = .ok (.getfield 71, 3) := by decide +kernel
theorem d_MO_walk_69 : decode b_MO_walk 69 = .ok (.iload_n 2, 1) := by decide +kernel
theorem d_MO_walk_70 : decode b_MO_walk 70 = .ok (.iconst 0, 1) := by decide +kernel
theorem d_MO_walk_71 : decode b_MO_walk 71 = .ok (.iastore, 1) := by decide +kernel
theorem d_MO_walk_72 : decode b_MO_walk 72 = .ok (.aload_n 0, 1) := by decide +kernel
theorem d_MO_walk_73 : decode b_MO_walk 73 = .ok (.getfield 74, 3) := by decide +kernel
theorem d_MO_walk_76 : decode b_MO_walk 76 = .ok (.iload_n 2, 1) := by decide +kernel
theorem d_MO_walk_77 : decode b_MO_walk 77 = .ok (.iconst 0, 1) := by decide +kernel
theorem d_MO_walk_78 : decode b_MO_walk 78 = .ok (.iastore, 1) := by decide +kernel
theorem d_MO_walk_79 : decode b_MO_walk 79 = .ok (.aload_n 0, 1) := by decide +kernel
theorem d_MO_walk_80 : decode b_MO_walk 80 = .ok (.getfield 77, 3) := by decide +kernel
theorem d_MO_walk_83 : decode b_MO_walk 83 = .ok (.iload_n 2, 1) := by decide +kernel
theorem d_MO_walk_84 : decode b_MO_walk 84 = .ok (.iconst 0, 1) := by decide +kernel
theorem d_MO_walk_85 : decode b_MO_walk 85 = .ok (.iastore, 1) := by decide +kernel
theorem d_MO_walk_86 : decode b_MO_walk 86 = .ok (.aload_n 0, 1) := by decide +kernel
theorem d_MO_walk_87 : decode b_MO_walk 87 = .ok (.iconst 0, 1) := by decide +kernel
theorem d_MO_walk_88 : decode b_MO_walk 88 = .ok (.iconst 0, 1) := by decide +kernel
theorem d_MO_walk_89 : decode b_MO_walk 89 = .ok (.iconst 0, 1) := by decide +kernel
theorem d_MO_walk_90 : decode b_MO_walk 90 = .ok (.aload_n 0, 1) := by decide +kernel
theorem d_MO_walk_91 : decode b_MO_walk 91 = .ok (.getfield 7, 3) := by decide +kernel
theorem d_MO_walk_94 : decode b_MO_walk 94 = .ok (.iload_n 1, 1) := by decide +kernel
theorem d_MO_walk_95 : decode b_MO_walk 95 = .ok (.iaload, 1) := by decide +kernel
theorem d_MO_walk_96 : decode b_MO_walk 96 = .ok (.aload_n 0, 1) := by decide +kernel
theorem d_MO_walk_97 : decode b_MO_walk 97 = .ok (.getfield 13, 3) := by decide +kernel
theorem d_MO_walk_100 : decode b_MO_walk 100 = .ok (.iload_n 1, 1) := by decide +kernel
theorem d_MO_walk_101 : decode b_MO_walk 101 = .ok (.iaload, 1) := by decide +kernel
theorem d_MO_walk_102 : decode b_MO_walk 102 = .ok (.aload_n 0, 1) := by decide +kernel
theorem d_MO_walk_103 : decode b_MO_walk 103 = .ok (.getfield 59, 3) := by decide +kernel
theorem d_MO_walk_106 : decode b_MO_walk 106 = .ok (.iload_n 2, 1) := by decide +kernel
theorem d_MO_walk_107 : decode b_MO_walk 107 = .ok (.iaload, 1) := by decide +kernel
theorem d_MO_walk_108 : decode b_MO_walk 108 = .ok (.aload_n 0, 1) := by decide +kernel
theorem d_MO_walk_109 : decode b_MO_walk 109 = .ok (.getfield 93, 3) := by decide +kernel
theorem d_MO_walk_112 : decode b_MO_walk 112 = .ok (.invokevirtual 140, 3) := by decide +kernel
theorem d_MO_walk_115 : decode b_MO_walk 115 = .ok (.iconst 1, 1) := by decide +kernel
theorem d_MO_walk_116 : decode b_MO_walk 116 = .ok (.istore_n 3, 1) := by decide +kernel
theorem d_MO_walk_117 : decode b_MO_walk 117 = .ok (.iload_n 3, 1) := by decide +kernel
theorem d_MO_walk_118 : decode b_MO_walk 118 = .ok (.ifCond .le 364, 3) := by decide +kernel
theorem d_MO_walk_121 : decode b_MO_walk 121 = .ok (.iinc 3 (-1), 3) := by decide +kernel
theorem d_MO_walk_124 : decode b_MO_walk 124 = .ok (.aload_n 0, 1) := by decide +kernel
theorem d_MO_walk_125 : decode b_MO_walk 125 = .ok (.getfield 53, 3) := by decide +kernel
theorem d_MO_walk_128 : decode b_MO_walk 128 = .ok (.bipush 6, 2) := by decide +kernel
theorem d_MO_walk_130 : decode b_MO_walk 130 = .ok (.iload_n 3, 1) := by decide +kernel
theorem d_MO_walk_131 : decode b_MO_walk 131 = .ok (.imul, 1) := by decide +kernel
theorem d_MO_walk_132 : decode b_MO_walk 132 = .ok (.iaload, 1) := by decide +kernel
theorem d_MO_walk_133 : decode b_MO_walk 133 = .ok (.istore 4, 2) := by decide +kernel
theorem d_MO_walk_135 : decode b_MO_walk 135 = .ok (.aload_n 0, 1) := by decide +kernel
theorem d_MO_walk_136 : decode b_MO_walk 136 = .ok (.getfield 53, 3) := by decide +kernel
theorem d_MO_walk_139 : decode b_MO_walk 139 = .ok (.bipush 6, 2) := by decide +kernel
theorem d_MO_walk_141 : decode b_MO_walk 141 = .ok (.iload_n 3, 1) := by decide +kernel
theorem d_MO_walk_142 : decode b_MO_walk 142 = .ok (.imul, 1) := by decide +kernel
theorem d_MO_walk_143 : decode b_MO_walk 143 = .ok (.iconst 1, 1) := by decide +kernel
theorem d_MO_walk_144 : decode b_MO_walk 144 = .ok (.iadd, 1) := by decide +kernel
theorem d_MO_walk_145 : decode b_MO_walk 145 = .ok (.iaload, 1) := by decide +kernel
theorem d_MO_walk_146 : decode b_MO_walk 146 = .ok (.istore 5, 2) := by decide +kernel
theorem d_MO_walk_148 : decode b_MO_walk 148 = .ok (.aload_n 0, 1) := by decide +kernel
theorem d_MO_walk_149 : decode b_MO_walk 149 = .ok (.getfield 53, 3) := by decide +kernel
theorem d_MO_walk_152 : decode b_MO_walk 152 = .ok (.bipush 6, 2) := by decide +kernel
theorem d_MO_walk_154 : decode b_MO_walk 154 = .ok (.iload_n 3, 1) := by decide +kernel
theorem d_MO_walk_155 : decode b_MO_walk 155 = .ok (.imul, 1) := by decide +kernel
theorem d_MO_walk_156 : decode b_MO_walk 156 = .ok (.iconst 2, 1) := by decide +kernel
theorem d_MO_walk_157 : decode b_MO_walk 157 = .ok (.iadd, 1) := by decide +kernel
theorem d_MO_walk_158 : decode b_MO_walk 158 = .ok (.iaload, 1) := by decide +kernel
theorem d_MO_walk_159 : decode b_MO_walk 159 = .ok (.istore 6, 2) := by decide +kernel
theorem d_MO_walk_161 : decode b_MO_walk 161 = .ok (.aload_n 0, 1) := by decide +kernel
theorem d_MO_walk_162 : decode b_MO_walk 162 = .ok (.getfield 53, 3) := by decide +kernel
theorem d_MO_walk_165 : decode b_MO_walk 165 = .ok (.bipush 6, 2) := by decide +kernel
theorem d_MO_walk_167 : decode b_MO_walk 167 = .ok (.iload_n 3, 1) := by decide +kernel
theorem d_MO_walk_168 : decode b_MO_walk 168 = .ok (.imul, 1) := by decide +kernel
theorem d_MO_walk_169 : decode b_MO_walk 169 = .ok (.iconst 3, 1) := by decide +kernel
theorem d_MO_walk_170 : decode b_MO_walk 170 = .ok (.iadd, 1) := by decide +kernel
theorem d_MO_walk_171 : decode b_MO_walk 171 = .ok (.iaload, 1) := by decide +kernel
theorem d_MO_walk_172 : decode b_MO_walk 172 = .ok (.istore 7, 2) := by decide +kernel
theorem d_MO_walk_174 : decode b_MO_walk 174 = .ok (.aload_n 0, 1) := by decide +kernel
theorem d_MO_walk_175 : decode b_MO_walk 175 = .ok (.getfield 53, 3) := by decide +kernel
theorem d_MO_walk_178 : decode b_MO_walk 178 = .ok (.bipush 6, 2) := by decide +kernel
theorem d_MO_walk_180 : decode b_MO_walk 180 = .ok (.iload_n 3, 1) := by decide +kernel
theorem d_MO_walk_181 : decode b_MO_walk 181 = .ok (.imul, 1) := by decide +kernel
theorem d_MO_walk_182 : decode b_MO_walk 182 = .ok (.iconst 4, 1) := by decide +kernel
theorem d_MO_walk_183 : decode b_MO_walk 183 = .ok (.iadd, 1) := by decide +kernel
theorem d_MO_walk_184 : decode b_MO_walk 184 = .ok (.iaload, 1) := by decide +kernel
theorem d_MO_walk_185 : decode b_MO_walk 185 = .ok (.istore 8, 2) := by decide +kernel
theorem d_MO_walk_187 : decode b_MO_walk 187 = .ok (.aload_n 0, 1) := by decide +kernel
theorem d_MO_walk_188 : decode b_MO_walk 188 = .ok (.getfield 53, 3) := by decide +kernel
theorem d_MO_walk_191 : decode b_MO_walk 191 = .ok (.bipush 6, 2) := by decide +kernel
theorem d_MO_walk_193 : decode b_MO_walk 193 = .ok (.iload_n 3, 1) := by decide +kernel
theorem d_MO_walk_194 : decode b_MO_walk 194 = .ok (.imul, 1) := by decide +kernel
theorem d_MO_walk_195 : decode b_MO_walk 195 = .ok (.iconst 5, 1) := by decide +kernel
theorem d_MO_walk_196 : decode b_MO_walk 196 = .ok (.iadd, 1) := by decide +kernel
theorem d_MO_walk_197 : decode b_MO_walk 197 = .ok (.iaload, 1) := by decide +kernel
theorem d_MO_walk_198 : decode b_MO_walk 198 = .ok (.istore 9, 2) := by decide +kernel
theorem d_MO_walk_200 : decode b_MO_walk 200 = .ok (.aload_n 0, 1) := by decide +kernel
theorem d_MO_walk_201 : decode b_MO_walk 201 = .ok (.getfield 50, 3) := by decide +kernel
theorem d_MO_walk_204 : decode b_MO_walk 204 = .ok (.iload 9, 2) := by decide +kernel
theorem d_MO_walk_206 : decode b_MO_walk 206 = .ok (.iload 8, 2) := by decide +kernel
theorem d_MO_walk_208 : decode b_MO_walk 208 = .ok (.iload 6, 2) := by decide +kernel
theorem d_MO_walk_210 : decode b_MO_walk 210 = .ok (.iload 7, 2) := by decide +kernel
theorem d_MO_walk_212 : decode b_MO_walk 212 = .ok (.invokestatic 116, 3) := by decide +kernel
theorem d_MO_walk_215 : decode b_MO_walk 215 = .ok (.iaload, 1) := by decide +kernel
theorem d_MO_walk_216 : decode b_MO_walk 216 = .ok (.istore 10, 2) := by decide +kernel
theorem d_MO_walk_218 : decode b_MO_walk 218 = .ok (.aload_n 0, 1) := by decide +kernel
theorem d_MO_walk_219 : decode b_MO_walk 219 = .ok (.getfield 80, 3) := by decide +kernel
theorem d_MO_walk_222 : decode b_MO_walk 222 = .ok (.sipush 600, 3) := by decide +kernel
theorem d_MO_walk_225 : decode b_MO_walk 225 = .ok (.iload_n 2, 1) := by decide +kernel
theorem d_MO_walk_226 : decode b_MO_walk 226 = .ok (.imul, 1) := by decide +kernel
theorem d_MO_walk_227 : decode b_MO_walk 227 = .ok (.aload_n 0, 1) := by decide +kernel
theorem d_MO_walk_228 : decode b_MO_walk 228 = .ok (.getfield 77, 3) := by decide +kernel
theorem d_MO_walk_231 : decode b_MO_walk 231 = .ok (.iload_n 2, 1) := by decide +kernel
theorem d_MO_walk_232 : decode b_MO_walk 232 = .ok (.iaload, 1) := by decide +kernel
theorem d_MO_walk_233 : decode b_MO_walk 233 = .ok (.iadd, 1) := by decide +kernel
theorem d_MO_walk_234 : decode b_MO_walk 234 = .ok (.iload 10, 2) := by decide +kernel
theorem d_MO_walk_236 : decode b_MO_walk 236 = .ok (.iastore, 1) := by decide +kernel
theorem d_MO_walk_237 : decode b_MO_walk 237 = .ok (.aload_n 0, 1) := by decide +kernel
theorem d_MO_walk_238 : decode b_MO_walk 238 = .ok (.getfield 77, 3) := by decide +kernel
theorem d_MO_walk_241 : decode b_MO_walk 241 = .ok (.iload_n 2, 1) := by decide +kernel
theorem d_MO_walk_242 : decode b_MO_walk 242 = .ok (.dup2, 1) := by decide +kernel
theorem d_MO_walk_243 : decode b_MO_walk 243 = .ok (.iaload, 1) := by decide +kernel
theorem d_MO_walk_244 : decode b_MO_walk 244 = .ok (.iconst 1, 1) := by decide +kernel
theorem d_MO_walk_245 : decode b_MO_walk 245 = .ok (.iadd, 1) := by decide +kernel
theorem d_MO_walk_246 : decode b_MO_walk 246 = .ok (.iastore, 1) := by decide +kernel
theorem d_MO_walk_247 : decode b_MO_walk 247 = .ok (.iload 10, 2) := by decide +kernel
theorem d_MO_walk_249 : decode b_MO_walk 249 = .ok (.bipush 16, 2) := by decide +kernel
theorem d_MO_walk_251 : decode b_MO_walk 251 = .ok (.if_icmp .le 191, 3) := by decide +kernel
theorem d_MO_walk_254 : decode b_MO_walk 254 = .ok (.iload 10, 2) := by decide +kernel
theorem d_MO_walk_256 : decode b_MO_walk 256 = .ok (.bipush 16, 2) := by decide +kernel
theorem d_MO_walk_258 : decode b_MO_walk 258 = .ok (.isub, 1) := by decide +kernel
theorem d_MO_walk_259 : decode b_MO_walk 259 = .ok (.istore 11, 2) := by decide +kernel
theorem d_MO_walk_261 : decode b_MO_walk 261 = .ok (.iload 8, 2) := by decide +kernel
theorem d_MO_walk_263 : decode b_MO_walk 263 = .ok (.ifCond .ne 8, 3) := by decide +kernel
theorem d_MO_walk_266 : decode b_MO_walk 266 = .ok (.iload 6, 2) := by decide +kernel
theorem d_MO_walk_268 : decode b_MO_walk 268 = .ok (.goto 5, 3) := by decide +kernel
theorem d_MO_walk_271 : decode b_MO_walk 271 = .ok (.iload 7, 2) := by decide +kernel
theorem d_MO_walk_273 : decode b_MO_walk 273 = .ok (.iload 11, 2) := by decide +kernel
theorem d_MO_walk_275 : decode b_MO_walk 275 = .ok (.isub, 1) := by decide +kernel
theorem d_MO_walk_276 : decode b_MO_walk 276 = .ok (.aload_n 0, 1) := by decide +kernel
theorem d_MO_walk_277 : decode b_MO_walk 277 = .ok (.getfield 89, 3) := by decide +kernel
theorem d_MO_walk_280 : decode b_MO_walk 280 = .ok (.isub, 1) := by decide +kernel
theorem d_MO_walk_281 : decode b_MO_walk 281 = .ok (.istore 12, 2) := by decide +kernel
theorem d_MO_walk_283 : decode b_MO_walk 283 = .ok (.aload_n 0, 1) := by decide +kernel
theorem d_MO_walk_284 : decode b_MO_walk 284 = .ok (.getfield 62, 3) := by decide +kernel
theorem d_MO_walk_287 : decode b_MO_walk 287 = .ok (.iload_n 2, 1) := by decide +kernel
theorem d_MO_walk_288 : decode b_MO_walk 288 = .ok (.dup2, 1) := by decide +kernel
theorem d_MO_walk_289 : decode b_MO_walk 289 = .ok (.iaload, 1) := by decide +kernel
theorem d_MO_walk_290 : decode b_MO_walk 290 = .ok (.iconst 1, 1) := by decide +kernel
theorem d_MO_walk_291 : decode b_MO_walk 291 = .ok (.iadd, 1) := by decide +kernel
theorem d_MO_walk_292 : decode b_MO_walk 292 = .ok (.iastore, 1) := by decide +kernel
theorem d_MO_walk_293 : decode b_MO_walk 293 = .ok (.aload_n 0, 1) := by decide +kernel
theorem d_MO_walk_294 : decode b_MO_walk 294 = .ok (.getfield 65, 3) := by decide +kernel
theorem d_MO_walk_297 : decode b_MO_walk 297 = .ok (.iload_n 2, 1) := by decide +kernel
theorem d_MO_walk_298 : decode b_MO_walk 298 = .ok (.dup2, 1) := by decide +kernel
theorem d_MO_walk_299 : decode b_MO_walk 299 = .ok (.iaload, 1) := by decide +kernel
theorem d_MO_walk_300 : decode b_MO_walk 300 = .ok (.iload 8, 2) := by decide +kernel
theorem d_MO_walk_302 : decode b_MO_walk 302 = .ok (.ifCond .ne 8, 3) := by decide +kernel
theorem d_MO_walk_305 : decode b_MO_walk 305 = .ok (.iload 7, 2) := by decide +kernel
theorem d_MO_walk_307 : decode b_MO_walk 307 = .ok (.goto 5, 3) := by decide +kernel
theorem d_MO_walk_310 : decode b_MO_walk 310 = .ok (.iload 6, 2) := by decide +kernel
theorem d_MO_walk_312 : decode b_MO_walk 312 = .ok (.iadd, 1) := by decide +kernel
theorem d_MO_walk_313 : decode b_MO_walk 313 = .ok (.iastore, 1) := by decide +kernel
theorem d_MO_walk_314 : decode b_MO_walk 314 = .ok (.iload 12, 2) := by decide +kernel
theorem d_MO_walk_316 : decode b_MO_walk 316 = .ok (.ifCond .le 79, 3) := by decide +kernel
theorem d_MO_walk_319 : decode b_MO_walk 319 = .ok (.aload_n 0, 1) := by decide +kernel
theorem d_MO_walk_320 : decode b_MO_walk 320 = .ok (.iload_n 3, 1) := by decide +kernel
theorem d_MO_walk_321 : decode b_MO_walk 321 = .ok (.iload 8, 2) := by decide +kernel
theorem d_MO_walk_323 : decode b_MO_walk 323 = .ok (.ifCond .ne 16, 3) := by decide +kernel
theorem d_MO_walk_326 : decode b_MO_walk 326 = .ok (.iload 4, 2) := by decide +kernel
theorem d_MO_walk_328 : decode b_MO_walk 328 = .ok (.iload 11, 2) := by decide +kernel
theorem d_MO_walk_330 : decode b_MO_walk 330 = .ok (.iadd, 1) := by decide +kernel
theorem d_MO_walk_331 : decode b_MO_walk 331 = .ok (.aload_n 0, 1) := by decide +kernel
theorem d_MO_walk_332 : decode b_MO_walk 332 = .ok (.getfield 89, 3) := by decide +kernel
theorem d_MO_walk_335 : decode b_MO_walk 335 = .ok (.iadd, 1) := by decide +kernel
theorem d_MO_walk_336 : decode b_MO_walk 336 = .ok (.goto 5, 3) := by decide +kernel
theorem d_MO_walk_339 : decode b_MO_walk 339 = .ok (.iload 4, 2) := by decide +kernel
theorem d_MO_walk_341 : decode b_MO_walk 341 = .ok (.iload 8, 2) := by decide +kernel
theorem d_MO_walk_343 : decode b_MO_walk 343 = .ok (.ifCond .ne 8, 3) := by decide +kernel
theorem d_MO_walk_346 : decode b_MO_walk 346 = .ok (.iload 5, 2) := by decide +kernel
theorem d_MO_walk_348 : decode b_MO_walk 348 = .ok (.goto 13, 3) := by decide +kernel
theorem d_MO_walk_351 : decode b_MO_walk 351 = .ok (.iload 5, 2) := by decide +kernel
theorem d_MO_walk_353 : decode b_MO_walk 353 = .ok (.iload 11, 2) := by decide +kernel
theorem d_MO_walk_355 : decode b_MO_walk 355 = .ok (.iadd, 1) := by decide +kernel
theorem d_MO_walk_356 : decode b_MO_walk 356 = .ok (.aload_n 0, 1) := by decide +kernel
theorem d_MO_walk_357 : decode b_MO_walk 357 = .ok (.getfield 89, 3) := by decide +kernel
theorem d_MO_walk_360 : decode b_MO_walk 360 = .ok (.iadd, 1) := by decide +kernel
theorem d_MO_walk_361 : decode b_MO_walk 361 = .ok (.iload 8, 2) := by decide +kernel
theorem d_MO_walk_363 : decode b_MO_walk 363 = .ok (.ifCond .ne 8, 3) := by decide +kernel
theorem d_MO_walk_366 : decode b_MO_walk 366 = .ok (.iload 12, 2) := by decide +kernel
theorem d_MO_walk_368 : decode b_MO_walk 368 = .ok (.goto 5, 3) := by decide +kernel
theorem d_MO_walk_371 : decode b_MO_walk 371 = .ok (.iload 6, 2) := by decide +kernel
theorem d_MO_walk_373 : decode b_MO_walk 373 = .ok (.iload 8, 2) := by decide +kernel
theorem d_MO_walk_375 : decode b_MO_walk 375 = .ok (.ifCond .ne 8, 3) := by decide +kernel
theorem d_MO_walk_378 : decode b_MO_walk 378 = .ok (.iload 7, 2) := by decide +kernel
theorem d_MO_walk_380 : decode b_MO_walk 380 = .ok (.goto 5, 3) := by decide +kernel
theorem d_MO_walk_383 : decode b_MO_walk 383 = .ok (.iload 12, 2) := by decide +kernel
theorem d_MO_walk_385 : decode b_MO_walk 385 = .ok (.iload 8, 2) := by decide +kernel
theorem d_MO_walk_387 : decode b_MO_walk 387 = .ok (.iload 9, 2) := by decide +kernel
theorem d_MO_walk_389 : decode b_MO_walk 389 = .ok (.invokevirtual 140, 3) := by decide +kernel
theorem d_MO_walk_392 : decode b_MO_walk 392 = .ok (.iinc 3 1, 3) := by decide +kernel
theorem d_MO_walk_395 : decode b_MO_walk 395 = .ok (.aload_n 0, 1) := by decide +kernel
theorem d_MO_walk_396 : decode b_MO_walk 396 = .ok (.iload_n 3, 1) := by decide +kernel
theorem d_MO_walk_397 : decode b_MO_walk 397 = .ok (.iload 4, 2) := by decide +kernel
theorem d_MO_walk_399 : decode b_MO_walk 399 = .ok (.iload 5, 2) := by decide +kernel
theorem d_MO_walk_401 : decode b_MO_walk 401 = .ok (.iload 8, 2) := by decide +kernel
theorem d_MO_walk_403 : decode b_MO_walk 403 = .ok (.ifCond .ne 8, 3) := by decide +kernel
theorem d_MO_walk_406 : decode b_MO_walk 406 = .ok (.iload 11, 2) := by decide +kernel
theorem d_MO_walk_408 : decode b_MO_walk 408 = .ok (.goto 5, 3) := by decide +kernel
theorem d_MO_walk_411 : decode b_MO_walk 411 = .ok (.iload 6, 2) := by decide +kernel
theorem d_MO_walk_413 : decode b_MO_walk 413 = .ok (.iload 8, 2) := by decide +kernel
theorem d_MO_walk_415 : decode b_MO_walk 415 = .ok (.ifCond .ne 8, 3) := by decide +kernel
theorem d_MO_walk_418 : decode b_MO_walk 418 = .ok (.iload 7, 2) := by decide +kernel
theorem d_MO_walk_420 : decode b_MO_walk 420 = .ok (.goto 5, 3) := by decide +kernel
theorem d_MO_walk_423 : decode b_MO_walk 423 = .ok (.iload 11, 2) := by decide +kernel
theorem d_MO_walk_425 : decode b_MO_walk 425 = .ok (.iconst 1, 1) := by decide +kernel
theorem d_MO_walk_426 : decode b_MO_walk 426 = .ok (.iload 8, 2) := by decide +kernel
theorem d_MO_walk_428 : decode b_MO_walk 428 = .ok (.isub, 1) := by decide +kernel
theorem d_MO_walk_429 : decode b_MO_walk 429 = .ok (.iload 9, 2) := by decide +kernel
theorem d_MO_walk_431 : decode b_MO_walk 431 = .ok (.iconst 1, 1) := by decide +kernel
theorem d_MO_walk_432 : decode b_MO_walk 432 = .ok (.isub, 1) := by decide +kernel
theorem d_MO_walk_433 : decode b_MO_walk 433 = .ok (.invokevirtual 140, 3) := by decide +kernel
theorem d_MO_walk_436 : decode b_MO_walk 436 = .ok (.iinc 3 1, 3) := by decide +kernel
theorem d_MO_walk_439 : decode b_MO_walk 439 = .ok (.goto 40, 3) := by decide +kernel
theorem d_MO_walk_442 : decode b_MO_walk 442 = .ok (.iload 10, 2) := by decide +kernel
theorem d_MO_walk_444 : decode b_MO_walk 444 = .ok (.iconst (-1), 1) := by decide +kernel
theorem d_MO_walk_445 : decode b_MO_walk 445 = .ok (.if_icmp .ne 19, 3) := by decide +kernel
theorem d_MO_walk_448 : decode b_MO_walk 448 = .ok (.aload_n 0, 1) := by decide +kernel
theorem d_MO_walk_449 : decode b_MO_walk 449 = .ok (.iload_n 2, 1) := by decide +kernel
theorem d_MO_walk_450 : decode b_MO_walk 450 = .ok (.iload 4, 2) := by decide +kernel
theorem d_MO_walk_452 : decode b_MO_walk 452 = .ok (.iload 5, 2) := by decide +kernel
theorem d_MO_walk_454 : decode b_MO_walk 454 = .ok (.iload 6, 2) := by decide +kernel
theorem d_MO_walk_456 : decode b_MO_walk 456 = .ok (.iload 7, 2) := by decide +kernel
theorem d_MO_walk_458 : decode b_MO_walk 458 = .ok (.invokevirtual 144, 3) := by decide +kernel
theorem d_MO_walk_461 : decode b_MO_walk 461 = .ok (.goto 18, 3) := by decide +kernel
theorem d_MO_walk_464 : decode b_MO_walk 464 = .ok (.aload_n 0, 1) := by decide +kernel
theorem d_MO_walk_465 : decode b_MO_walk 465 = .ok (.iload_n 2, 1) := by decide +kernel
theorem d_MO_walk_466 : decode b_MO_walk 466 = .ok (.iload 10, 2) := by decide +kernel
theorem d_MO_walk_468 : decode b_MO_walk 468 = .ok (.iload 4, 2) := by decide +kernel
theorem d_MO_walk_470 : decode b_MO_walk 470 = .ok (.iload 5, 2) := by decide +kernel
theorem d_MO_walk_472 : decode b_MO_walk 472 = .ok (.iload 6, 2) := by decide +kernel
theorem d_MO_walk_474 : decode b_MO_walk 474 = .ok (.iload 7, 2) := by decide +kernel
theorem d_MO_walk_476 : decode b_MO_walk 476 = .ok (.invokevirtual 148, 3) := by decide +kernel
theorem d_MO_walk_479 : decode b_MO_walk 479 = .ok (.goto (-362), 3) := by decide +kernel
theorem d_MO_walk_482 : decode b_MO_walk 482 = .ok (.return_, 1) := by decide +kernel
theorem d_MO_keepRest_0 : decode b_MO_keepRest 0 = .ok (.iload 4, 2) := by decide +kernel
theorem d_MO_keepRest_2 : decode b_MO_keepRest 2 = .ok (.aload_n 0, 1) := by decide +kernel
theorem d_MO_keepRest_3 : decode b_MO_keepRest 3 = .ok (.getfield 96, 3) := by decide +kernel
theorem d_MO_keepRest_6 : decode b_MO_keepRest 6 = .ok (.if_icmp .lt 12, 3) := by decide +kernel
theorem d_MO_keepRest_9 : decode b_MO_keepRest 9 = .ok (.iload 5, 2) := by decide +kernel
theorem d_MO_keepRest_11 : decode b_MO_keepRest 11 = .ok (.aload_n 0, 1) := by decide +kernel
theorem d_MO_keepRest_12 : decode b_MO_keepRest 12 = .ok (.getfield 96, 3) := by decide +kernel
theorem d_MO_keepRest_15 : decode b_MO_keepRest 15 = .ok (.if_icmp .ge 4, 3) := by decide +kernel
theorem d_MO_keepRest_18 : decode b_MO_keepRest 18 = .ok (.return_, 1) := by decide +kernel
theorem d_MO_keepRest_19 : decode b_MO_keepRest 19 = .ok (.iconst 4, 1) := by decide +kernel
theorem d_MO_keepRest_20 : decode b_MO_keepRest 20 = .ok (.sipush 256, 3) := by decide +kernel
theorem d_MO_keepRest_23 : decode b_MO_keepRest 23 = .ok (.iload_n 1, 1) := by decide +kernel
theorem d_MO_keepRest_24 : decode b_MO_keepRest 24 = .ok (.imul, 1) := by decide +kernel
theorem d_MO_keepRest_25 : decode b_MO_keepRest 25 = .ok (.aload_n 0, 1) := by decide +kernel
theorem d_MO_keepRest_26 : decode b_MO_keepRest 26 = .ok (.getfield 74, 3) := by decide +kernel
theorem d_MO_keepRest_29 : decode b_MO_keepRest 29 = .ok (.iload_n 1, 1) := by decide +kernel
theorem d_MO_keepRest_30 : decode b_MO_keepRest 30 = .ok (.iaload, 1) := by decide +kernel
theorem d_MO_keepRest_31 : decode b_MO_keepRest 31 = .ok (.iadd, 1) := by decide +kernel
theorem d_MO_keepRest_32 : decode b_MO_keepRest 32 = .ok (.imul, 1) := by decide +kernel
theorem d_MO_keepRest_33 : decode b_MO_keepRest 33 = .ok (.istore 6, 2) := by decide +kernel
theorem d_MO_keepRest_35 : decode b_MO_keepRest 35 = .ok (.aload_n 0, 1) := by decide +kernel
theorem d_MO_keepRest_36 : decode b_MO_keepRest 36 = .ok (.getfield 86, 3) := by decide +kernel
theorem d_MO_keepRest_39 : decode b_MO_keepRest 39 = .ok (.iload 6, 2) := by decide +kernel
theorem d_MO_keepRest_41 : decode b_MO_keepRest 41 = .ok (.iload_n 2, 1) := by decide +kernel
theorem d_MO_keepRest_42 : decode b_MO_keepRest 42 = .ok (.iastore, 1) := by decide +kernel
theorem d_MO_keepRest_43 : decode b_MO_keepRest 43 = .ok (.aload_n 0, 1) := by decide +kernel
theorem d_MO_keepRest_44 : decode b_MO_keepRest 44 = .ok (.getfield 86, 3) := by decide +kernel
theorem d_MO_keepRest_47 : decode b_MO_keepRest 47 = .ok (.iload 6, 2) := by decide +kernel
theorem d_MO_keepRest_49 : decode b_MO_keepRest 49 = .ok (.iconst 1, 1) := by decide +kernel
theorem d_MO_keepRest_50 : decode b_MO_keepRest 50 = .ok (.iadd, 1) := by decide +kernel
theorem d_MO_keepRest_51 : decode b_MO_keepRest 51 = .ok (.iload_n 3, 1) := by decide +kernel
theorem d_MO_keepRest_52 : decode b_MO_keepRest 52 = .ok (.iastore, 1) := by decide +kernel
theorem d_MO_keepRest_53 : decode b_MO_keepRest 53 = .ok (.aload_n 0, 1) := by decide +kernel
theorem d_MO_keepRest_54 : decode b_MO_keepRest 54 = .ok (.getfield 86, 3) := by decide +kernel
theorem d_MO_keepRest_57 : decode b_MO_keepRest 57 = .ok (.iload 6, 2) := by decide +kernel
theorem d_MO_keepRest_59 : decode b_MO_keepRest 59 = .ok (.iconst 2, 1) := by decide +kernel
theorem d_MO_keepRest_60 : decode b_MO_keepRest 60 = .ok (.iadd, 1) := by decide +kernel
theorem d_MO_keepRest_61 : decode b_MO_keepRest 61 = .ok (.iload 4, 2) := by decide +kernel
theorem d_MO_keepRest_63 : decode b_MO_keepRest 63 = .ok (.iastore, 1) := by decide +kernel
theorem d_MO_keepRest_64 : decode b_MO_keepRest 64 = .ok (.aload_n 0, 1) := by decide +kernel
theorem d_MO_keepRest_65 : decode b_MO_keepRest 65 = .ok (.getfield 86, 3) := by decide +kernel
theorem d_MO_keepRest_68 : decode b_MO_keepRest 68 = .ok (.iload 6, 2) := by decide +kernel
theorem d_MO_keepRest_70 : decode b_MO_keepRest 70 = .ok (.iconst 3, 1) := by decide +kernel
theorem d_MO_keepRest_71 : decode b_MO_keepRest 71 = .ok (.iadd, 1) := by decide +kernel
theorem d_MO_keepRest_72 : decode b_MO_keepRest 72 = .ok (.iload 5, 2) := by decide +kernel
theorem d_MO_keepRest_74 : decode b_MO_keepRest 74 = .ok (.iastore, 1) := by decide +kernel
theorem d_MO_keepRest_75 : decode b_MO_keepRest 75 = .ok (.aload_n 0, 1) := by decide +kernel
theorem d_MO_keepRest_76 : decode b_MO_keepRest 76 = .ok (.getfield 74, 3) := by decide +kernel
theorem d_MO_keepRest_79 : decode b_MO_keepRest 79 = .ok (.iload_n 1, 1) := by decide +kernel
theorem d_MO_keepRest_80 : decode b_MO_keepRest 80 = .ok (.dup2, 1) := by decide +kernel
theorem d_MO_keepRest_81 : decode b_MO_keepRest 81 = .ok (.iaload, 1) := by decide +kernel
theorem d_MO_keepRest_82 : decode b_MO_keepRest 82 = .ok (.iconst 1, 1) := by decide +kernel
theorem d_MO_keepRest_83 : decode b_MO_keepRest 83 = .ok (.iadd, 1) := by decide +kernel
theorem d_MO_keepRest_84 : decode b_MO_keepRest 84 = .ok (.iastore, 1) := by decide +kernel
theorem d_MO_keepRest_85 : decode b_MO_keepRest 85 = .ok (.return_, 1) := by decide +kernel
theorem d_MO_take_0 : decode b_MO_take 0 = .ok (.aload_n 0, 1) := by decide +kernel
theorem d_MO_take_1 : decode b_MO_take 1 = .ok (.getfield 41, 3) := by decide +kernel
theorem d_MO_take_4 : decode b_MO_take 4 = .ok (.iload_n 2, 1) := by decide +kernel
theorem d_MO_take_5 : decode b_MO_take 5 = .ok (.iaload, 1) := by decide +kernel
theorem d_MO_take_6 : decode b_MO_take 6 = .ok (.ifCond .ne 4, 3) := by decide +kernel
theorem d_MO_take_9 : decode b_MO_take 9 = .ok (.return_, 1) := by decide +kernel
theorem d_MO_take_10 : decode b_MO_take 10 = .ok (.aload_n 0, 1) := by decide +kernel
theorem d_MO_take_11 : decode b_MO_take 11 = .ok (.getfield 41, 3) := by decide +kernel
theorem d_MO_take_14 : decode b_MO_take 14 = .ok (.iload_n 2, 1) := by decide +kernel
theorem d_MO_take_15 : decode b_MO_take 15 = .ok (.dup2, 1) := by decide +kernel
theorem d_MO_take_16 : decode b_MO_take 16 = .ok (.iaload, 1) := by decide +kernel
theorem d_MO_take_17 : decode b_MO_take 17 = .ok (.iconst 1, 1) := by decide +kernel
theorem d_MO_take_18 : decode b_MO_take 18 = .ok (.isub, 1) := by decide +kernel
theorem d_MO_take_19 : decode b_MO_take 19 = .ok (.iastore, 1) := by decide +kernel
theorem d_MO_take_20 : decode b_MO_take 20 = .ok (.iconst 5, 1) := by decide +kernel
theorem d_MO_take_21 : decode b_MO_take 21 = .ok (.sipush 256, 3) := by decide +kernel
theorem d_MO_take_24 : decode b_MO_take 24 = .ok (.iload_n 1, 1) := by decide +kernel
theorem d_MO_take_25 : decode b_MO_take 25 = .ok (.imul, 1) := by decide +kernel
theorem d_MO_take_26 : decode b_MO_take 26 = .ok (.aload_n 0, 1) := by decide +kernel
theorem d_MO_take_27 : decode b_MO_take 27 = .ok (.getfield 68, 3) := by decide +kernel
theorem d_MO_take_30 : decode b_MO_take 30 = .ok (.iload_n 1, 1) := by decide +kernel
theorem d_MO_take_31 : decode b_MO_take 31 = .ok (.iaload, 1) := by decide +kernel
theorem d_MO_take_32 : decode b_MO_take 32 = .ok (.iadd, 1) := by decide +kernel
theorem d_MO_take_33 : decode b_MO_take 33 = .ok (.imul, 1) := by decide +kernel
theorem d_MO_take_34 : decode b_MO_take 34 = .ok (.istore 7, 2) := by decide +kernel
theorem d_MO_take_36 : decode b_MO_take 36 = .ok (.aload_n 0, 1) := by decide +kernel
theorem d_MO_take_37 : decode b_MO_take 37 = .ok (.getfield 83, 3) := by decide +kernel
theorem d_MO_take_40 : decode b_MO_take 40 = .ok (.iload 7, 2) := by decide +kernel
theorem d_MO_take_42 : decode b_MO_take 42 = .ok (.iload_n 2, 1) := by decide +kernel
theorem d_MO_take_43 : decode b_MO_take 43 = .ok (.iastore, 1) := by decide +kernel
theorem d_MO_take_44 : decode b_MO_take 44 = .ok (.aload_n 0, 1) := by decide +kernel
theorem d_MO_take_45 : decode b_MO_take 45 = .ok (.getfield 83, 3) := by decide +kernel
theorem d_MO_take_48 : decode b_MO_take 48 = .ok (.iload 7, 2) := by decide +kernel
theorem d_MO_take_50 : decode b_MO_take 50 = .ok (.iconst 1, 1) := by decide +kernel
theorem d_MO_take_51 : decode b_MO_take 51 = .ok (.iadd, 1) := by decide +kernel
theorem d_MO_take_52 : decode b_MO_take 52 = .ok (.iload_n 3, 1) := by decide +kernel
theorem d_MO_take_53 : decode b_MO_take 53 = .ok (.iastore, 1) := by decide +kernel
theorem d_MO_take_54 : decode b_MO_take 54 = .ok (.aload_n 0, 1) := by decide +kernel
theorem d_MO_take_55 : decode b_MO_take 55 = .ok (.getfield 83, 3) := by decide +kernel
theorem d_MO_take_58 : decode b_MO_take 58 = .ok (.iload 7, 2) := by decide +kernel
theorem d_MO_take_60 : decode b_MO_take 60 = .ok (.iconst 2, 1) := by decide +kernel
theorem d_MO_take_61 : decode b_MO_take 61 = .ok (.iadd, 1) := by decide +kernel
theorem d_MO_take_62 : decode b_MO_take 62 = .ok (.iload 4, 2) := by decide +kernel
theorem d_MO_take_64 : decode b_MO_take 64 = .ok (.iastore, 1) := by decide +kernel
theorem d_MO_take_65 : decode b_MO_take 65 = .ok (.aload_n 0, 1) := by decide +kernel
theorem d_MO_take_66 : decode b_MO_take 66 = .ok (.getfield 83, 3) := by decide +kernel
theorem d_MO_take_69 : decode b_MO_take 69 = .ok (.iload 7, 2) := by decide +kernel
theorem d_MO_take_71 : decode b_MO_take 71 = .ok (.iconst 3, 1) := by decide +kernel
theorem d_MO_take_72 : decode b_MO_take 72 = .ok (.iadd, 1) := by decide +kernel
theorem d_MO_take_73 : decode b_MO_take 73 = .ok (.iload 5, 2) := by decide +kernel
theorem d_MO_take_75 : decode b_MO_take 75 = .ok (.iastore, 1) := by decide +kernel
theorem d_MO_take_76 : decode b_MO_take 76 = .ok (.aload_n 0, 1) := by decide +kernel
theorem d_MO_take_77 : decode b_MO_take 77 = .ok (.getfield 83, 3) := by decide +kernel
theorem d_MO_take_80 : decode b_MO_take 80 = .ok (.iload 7, 2) := by decide +kernel
theorem d_MO_take_82 : decode b_MO_take 82 = .ok (.iconst 4, 1) := by decide +kernel
theorem d_MO_take_83 : decode b_MO_take 83 = .ok (.iadd, 1) := by decide +kernel
theorem d_MO_take_84 : decode b_MO_take 84 = .ok (.iload 6, 2) := by decide +kernel
theorem d_MO_take_86 : decode b_MO_take 86 = .ok (.iastore, 1) := by decide +kernel
theorem d_MO_take_87 : decode b_MO_take 87 = .ok (.aload_n 0, 1) := by decide +kernel
theorem d_MO_take_88 : decode b_MO_take 88 = .ok (.getfield 68, 3) := by decide +kernel
theorem d_MO_take_91 : decode b_MO_take 91 = .ok (.iload_n 1, 1) := by decide +kernel
theorem d_MO_take_92 : decode b_MO_take 92 = .ok (.dup2, 1) := by decide +kernel
theorem d_MO_take_93 : decode b_MO_take 93 = .ok (.iaload, 1) := by decide +kernel
theorem d_MO_take_94 : decode b_MO_take 94 = .ok (.iconst 1, 1) := by decide +kernel
theorem d_MO_take_95 : decode b_MO_take 95 = .ok (.iadd, 1) := by decide +kernel
theorem d_MO_take_96 : decode b_MO_take 96 = .ok (.iastore, 1) := by decide +kernel
theorem d_MO_take_97 : decode b_MO_take 97 = .ok (.aload_n 0, 1) := by decide +kernel
theorem d_MO_take_98 : decode b_MO_take 98 = .ok (.getfield 71, 3) := by decide +kernel
theorem d_MO_take_101 : decode b_MO_take 101 = .ok (.iload_n 1, 1) := by decide +kernel
theorem d_MO_take_102 : decode b_MO_take 102 = .ok (.dup2, 1) := by decide +kernel
theorem d_MO_take_103 : decode b_MO_take 103 = .ok (.iaload, 1) := by decide +kernel
theorem d_MO_take_104 : decode b_MO_take 104 = .ok (.iload 5, 2) := by decide +kernel
theorem d_MO_take_106 : decode b_MO_take 106 = .ok (.iload 6, 2) := by decide +kernel
theorem d_MO_take_108 : decode b_MO_take 108 = .ok (.imul, 1) := by decide +kernel
theorem d_MO_take_109 : decode b_MO_take 109 = .ok (.iadd, 1) := by decide +kernel
theorem d_MO_take_110 : decode b_MO_take 110 = .ok (.iastore, 1) := by decide +kernel
theorem d_MO_take_111 : decode b_MO_take 111 = .ok (.return_, 1) := by decide +kernel
theorem d_MO_run_0 : decode b_MO_run 0 = .ok (.aload_n 0, 1) := by decide +kernel
theorem d_MO_run_1 : decode b_MO_run 1 = .ok (.iconst 0, 1) := by decide +kernel
theorem d_MO_run_2 : decode b_MO_run 2 = .ok (.putfield 99, 3) := by decide +kernel
theorem d_MO_run_5 : decode b_MO_run 5 = .ok (.aload_n 0, 1) := by decide +kernel
theorem d_MO_run_6 : decode b_MO_run 6 = .ok (.invokevirtual 130, 3) := by decide +kernel
theorem d_MO_run_9 : decode b_MO_run 9 = .ok (.iconst 0, 1) := by decide +kernel
theorem d_MO_run_10 : decode b_MO_run 10 = .ok (.istore_n 1, 1) := by decide +kernel
theorem d_MO_run_11 : decode b_MO_run 11 = .ok (.iload_n 1, 1) := by decide +kernel
theorem d_MO_run_12 : decode b_MO_run 12 = .ok (.iconst 4, 1) := by decide +kernel
theorem d_MO_run_13 : decode b_MO_run 13 = .ok (.if_icmp .ge 21, 3) := by decide +kernel
theorem d_MO_run_16 : decode b_MO_run 16 = .ok (.aload_n 0, 1) := by decide +kernel
theorem d_MO_run_17 : decode b_MO_run 17 = .ok (.getfield 38, 3) := by decide +kernel
theorem d_MO_run_20 : decode b_MO_run 20 = .ok (.iload_n 1, 1) := by decide +kernel
theorem d_MO_run_21 : decode b_MO_run 21 = .ok (.aload_n 0, 1) := by decide +kernel
theorem d_MO_run_22 : decode b_MO_run 22 = .ok (.getfield 19, 3) := by decide +kernel
theorem d_MO_run_25 : decode b_MO_run 25 = .ok (.iload_n 1, 1) := by decide +kernel
theorem d_MO_run_26 : decode b_MO_run 26 = .ok (.iaload, 1) := by decide +kernel
theorem d_MO_run_27 : decode b_MO_run 27 = .ok (.iastore, 1) := by decide +kernel
theorem d_MO_run_28 : decode b_MO_run 28 = .ok (.iinc 1 1, 3) := by decide +kernel
theorem d_MO_run_31 : decode b_MO_run 31 = .ok (.goto (-20), 3) := by decide +kernel
theorem d_MO_run_34 : decode b_MO_run 34 = .ok (.aload_n 0, 1) := by decide +kernel
theorem d_MO_run_35 : decode b_MO_run 35 = .ok (.iconst 0, 1) := by decide +kernel
theorem d_MO_run_36 : decode b_MO_run 36 = .ok (.putfield 152, 3) := by decide +kernel
theorem d_MO_run_39 : decode b_MO_run 39 = .ok (.aload_n 0, 1) := by decide +kernel
theorem d_MO_run_40 : decode b_MO_run 40 = .ok (.iconst 1, 1) := by decide +kernel
theorem d_MO_run_41 : decode b_MO_run 41 = .ok (.putfield 109, 3) := by decide +kernel
theorem d_MO_run_44 : decode b_MO_run 44 = .ok (.iconst 1, 1) := by decide +kernel
theorem d_MO_run_45 : decode b_MO_run 45 = .ok (.istore_n 1, 1) := by decide +kernel
theorem d_MO_run_46 : decode b_MO_run 46 = .ok (.iload_n 1, 1) := by decide +kernel
theorem d_MO_run_47 : decode b_MO_run 47 = .ok (.ifCond .eq 187, 3) := by decide +kernel
theorem d_MO_run_50 : decode b_MO_run 50 = .ok (.aload_n 0, 1) := by decide +kernel
theorem d_MO_run_51 : decode b_MO_run 51 = .ok (.getfield 152, 3) := by decide +kernel
theorem d_MO_run_54 : decode b_MO_run 54 = .ok (.bipush 20, 2) := by decide +kernel
theorem d_MO_run_56 : decode b_MO_run 56 = .ok (.if_icmp .ge 178, 3) := by decide +kernel
theorem d_MO_run_59 : decode b_MO_run 59 = .ok (.aload_n 0, 1) := by decide +kernel
theorem d_MO_run_60 : decode b_MO_run 60 = .ok (.invokevirtual 133, 3) := by decide +kernel
theorem d_MO_run_63 : decode b_MO_run 63 = .ok (.iconst (-1), 1) := by decide +kernel
theorem d_MO_run_64 : decode b_MO_run 64 = .ok (.istore_n 2, 1) := by decide +kernel
theorem d_MO_run_65 : decode b_MO_run 65 = .ok (.lconst 0, 1) := by decide +kernel
theorem d_MO_run_66 : decode b_MO_run 66 = .ok (.lstore_n 3, 1) := by decide +kernel
theorem d_MO_run_67 : decode b_MO_run 67 = .ok (.iconst 0, 1) := by decide +kernel
theorem d_MO_run_68 : decode b_MO_run 68 = .ok (.istore 5, 2) := by decide +kernel
theorem d_MO_run_70 : decode b_MO_run 70 = .ok (.iload 5, 2) := by decide +kernel
theorem d_MO_run_72 : decode b_MO_run 72 = .ok (.aload_n 0, 1) := by decide +kernel
theorem d_MO_run_73 : decode b_MO_run 73 = .ok (.getfield 106, 3) := by decide +kernel
theorem d_MO_run_76 : decode b_MO_run 76 = .ok (.if_icmp .ge 82, 3) := by decide +kernel
theorem d_MO_run_79 : decode b_MO_run 79 = .ok (.aload_n 0, 1) := by decide +kernel
theorem d_MO_run_80 : decode b_MO_run 80 = .ok (.getfield 38, 3) := by decide +kernel
theorem d_MO_run_83 : decode b_MO_run 83 = .ok (.iload 5, 2) := by decide +kernel
theorem d_MO_run_85 : decode b_MO_run 85 = .ok (.iaload, 1) := by decide +kernel
theorem d_MO_run_86 : decode b_MO_run 86 = .ok (.ifCond .le 66, 3) := by decide +kernel
theorem d_MO_run_89 : decode b_MO_run 89 = .ok (.aload_n 0, 1) := by decide +kernel
theorem d_MO_run_90 : decode b_MO_run 90 = .ok (.iload 5, 2) := by decide +kernel
theorem d_MO_run_92 : decode b_MO_run 92 = .ok (.aload_n 0, 1) := by decide +kernel
theorem d_MO_run_93 : decode b_MO_run 93 = .ok (.getfield 152, 3) := by decide +kernel
theorem d_MO_run_96 : decode b_MO_run 96 = .ok (.invokevirtual 155, 3) := by decide +kernel
theorem d_MO_run_99 : decode b_MO_run 99 = .ok (.aload_n 0, 1) := by decide +kernel
theorem d_MO_run_100 : decode b_MO_run 100 = .ok (.getfield 71, 3) := by decide +kernel
theorem d_MO_run_103 : decode b_MO_run 103 = .ok (.aload_n 0, 1) := by decide +kernel
theorem d_MO_run_104 : decode b_MO_run 104 = .ok (.getfield 152, 3) := by decide +kernel
theorem d_MO_run_107 : decode b_MO_run 107 = .ok (.iaload, 1) := by decide +kernel
theorem d_MO_run_108 : decode b_MO_run 108 = .ok (.i2l, 1) := by decide +kernel
theorem d_MO_run_109 : decode b_MO_run 109 = .ok (.lstore 6, 2) := by decide +kernel
theorem d_MO_run_111 : decode b_MO_run 111 = .ok (.lload 6, 2) := by decide +kernel
theorem d_MO_run_113 : decode b_MO_run 113 = .ok (.lconst 0, 1) := by decide +kernel
theorem d_MO_run_114 : decode b_MO_run 114 = .ok (.lcmp, 1) := by decide +kernel
theorem d_MO_run_115 : decode b_MO_run 115 = .ok (.ifCond .le 37, 3) := by decide +kernel
theorem d_MO_run_118 : decode b_MO_run 118 = .ok (.iload_n 2, 1) := by decide +kernel
theorem d_MO_run_119 : decode b_MO_run 119 = .ok (.ifCond .lt 27, 3) := by decide +kernel
theorem d_MO_run_122 : decode b_MO_run 122 = .ok (.lload 6, 2) := by decide +kernel
theorem d_MO_run_124 : decode b_MO_run 124 = .ok (.aload_n 0, 1) := by decide +kernel
theorem d_MO_run_125 : decode b_MO_run 125 = .ok (.getfield 16, 3) := by decide +kernel
theorem d_MO_run_128 : decode b_MO_run 128 = .ok (.iload_n 2, 1) := by decide +kernel
theorem d_MO_run_129 : decode b_MO_run 129 = .ok (.iaload, 1) := by decide +kernel
theorem d_MO_run_130 : decode b_MO_run 130 = .ok (.i2l, 1) := by decide +kernel
theorem d_MO_run_131 : decode b_MO_run 131 = .ok (.lmul, 1) := by decide +kernel
theorem d_MO_run_132 : decode b_MO_run 132 = .ok (.lload_n 3, 1) := by decide +kernel
theorem d_MO_run_133 : decode b_MO_run 133 = .ok (.aload_n 0, 1) := by decide +kernel
theorem d_MO_run_134 : decode b_MO_run 134 = .ok (.getfield 16, 3) := by decide +kernel
theorem d_MO_run_137 : decode b_MO_run 137 = .ok (.iload 5, 2) := by decide +kernel
theorem d_MO_run_139 : decode b_MO_run 139 = .ok (.iaload, 1) := by decide +kernel
theorem d_MO_run_140 : decode b_MO_run 140 = .ok (.i2l, 1) := by decide +kernel
theorem d_MO_run_141 : decode b_MO_run 141 = .ok (.lmul, 1) := by decide +kernel
theorem d_MO_run_142 : decode b_MO_run 142 = .ok (.lcmp, 1) := by decide +kernel
theorem d_MO_run_143 : decode b_MO_run 143 = .ok (.ifCond .le 9, 3) := by decide +kernel
theorem d_MO_run_146 : decode b_MO_run 146 = .ok (.iload 5, 2) := by decide +kernel
theorem d_MO_run_148 : decode b_MO_run 148 = .ok (.istore_n 2, 1) := by decide +kernel
theorem d_MO_run_149 : decode b_MO_run 149 = .ok (.lload 6, 2) := by decide +kernel
theorem d_MO_run_151 : decode b_MO_run 151 = .ok (.lstore_n 3, 1) := by decide +kernel
theorem d_MO_run_152 : decode b_MO_run 152 = .ok (.iinc 5 1, 3) := by decide +kernel
theorem d_MO_run_155 : decode b_MO_run 155 = .ok (.goto (-85), 3) := by decide +kernel
theorem d_MO_run_158 : decode b_MO_run 158 = .ok (.iload_n 2, 1) := by decide +kernel
theorem d_MO_run_159 : decode b_MO_run 159 = .ok (.ifCond .lt 7, 3) := by decide +kernel
theorem d_MO_run_162 : decode b_MO_run 162 = .ok (.iconst 1, 1) := by decide +kernel
theorem d_MO_run_163 : decode b_MO_run 163 = .ok (.goto 4, 3) := by decide +kernel
theorem d_MO_run_166 : decode b_MO_run 166 = .ok (.iconst 0, 1) := by decide +kernel
theorem d_MO_run_167 : decode b_MO_run 167 = .ok (.istore_n 1, 1) := by decide +kernel
theorem d_MO_run_168 : decode b_MO_run 168 = .ok (.iload_n 1, 1) := by decide +kernel
theorem d_MO_run_169 : decode b_MO_run 169 = .ok (.ifCond .eq 62, 3) := by decide +kernel
theorem d_MO_run_172 : decode b_MO_run 172 = .ok (.aload_n 0, 1) := by decide +kernel
theorem d_MO_run_173 : decode b_MO_run 173 = .ok (.iload_n 2, 1) := by decide +kernel
theorem d_MO_run_174 : decode b_MO_run 174 = .ok (.aload_n 0, 1) := by decide +kernel
theorem d_MO_run_175 : decode b_MO_run 175 = .ok (.getfield 152, 3) := by decide +kernel
theorem d_MO_run_178 : decode b_MO_run 178 = .ok (.invokevirtual 155, 3) := by decide +kernel
theorem d_MO_run_181 : decode b_MO_run 181 = .ok (.aload_n 0, 1) := by decide +kernel
theorem d_MO_run_182 : decode b_MO_run 182 = .ok (.getfield 38, 3) := by decide +kernel
theorem d_MO_run_185 : decode b_MO_run 185 = .ok (.iload_n 2, 1) := by decide +kernel
theorem d_MO_run_186 : decode b_MO_run 186 = .ok (.dup2, 1) := by decide +kernel
theorem d_MO_run_187 : decode b_MO_run 187 = .ok (.iaload, 1) := by decide +kernel
theorem d_MO_run_188 : decode b_MO_run 188 = .ok (.iconst 1, 1) := by decide +kernel
theorem d_MO_run_189 : decode b_MO_run 189 = .ok (.isub, 1) := by decide +kernel
theorem d_MO_run_190 : decode b_MO_run 190 = .ok (.iastore, 1) := by decide +kernel
theorem d_MO_run_191 : decode b_MO_run 191 = .ok (.iconst 0, 1) := by decide +kernel
theorem d_MO_run_192 : decode b_MO_run 192 = .ok (.istore 5, 2) := by decide +kernel
theorem d_MO_run_194 : decode b_MO_run 194 = .ok (.iload 5, 2) := by decide +kernel
theorem d_MO_run_196 : decode b_MO_run 196 = .ok (.bipush 8, 2) := by decide +kernel
theorem d_MO_run_198 : decode b_MO_run 198 = .ok (.if_icmp .ge 23, 3) := by decide +kernel
theorem d_MO_run_201 : decode b_MO_run 201 = .ok (.aload_n 0, 1) := by decide +kernel
theorem d_MO_run_202 : decode b_MO_run 202 = .ok (.getfield 35, 3) := by decide +kernel
theorem d_MO_run_205 : decode b_MO_run 205 = .ok (.iload 5, 2) := by decide +kernel
theorem d_MO_run_207 : decode b_MO_run 207 = .ok (.aload_n 0, 1) := by decide +kernel
theorem d_MO_run_208 : decode b_MO_run 208 = .ok (.getfield 41, 3) := by decide +kernel
theorem d_MO_run_211 : decode b_MO_run 211 = .ok (.iload 5, 2) := by decide +kernel
theorem d_MO_run_213 : decode b_MO_run 213 = .ok (.iaload, 1) := by decide +kernel
theorem d_MO_run_214 : decode b_MO_run 214 = .ok (.iastore, 1) := by decide +kernel
theorem d_MO_run_215 : decode b_MO_run 215 = .ok (.iinc 5 1, 3) := by decide +kernel
theorem d_MO_run_218 : decode b_MO_run 218 = .ok (.goto (-24), 3) := by decide +kernel
theorem d_MO_run_221 : decode b_MO_run 221 = .ok (.aload_n 0, 1) := by decide +kernel
theorem d_MO_run_222 : decode b_MO_run 222 = .ok (.dup, 1) := by decide +kernel
theorem d_MO_run_223 : decode b_MO_run 223 = .ok (.getfield 152, 3) := by decide +kernel
theorem d_MO_run_226 : decode b_MO_run 226 = .ok (.iconst 1, 1) := by decide +kernel
theorem d_MO_run_227 : decode b_MO_run 227 = .ok (.iadd, 1) := by decide +kernel
theorem d_MO_run_228 : decode b_MO_run 228 = .ok (.putfield 152, 3) := by decide +kernel
theorem d_MO_run_231 : decode b_MO_run 231 = .ok (.goto (-185), 3) := by decide +kernel
theorem d_MO_run_234 : decode b_MO_run 234 = .ok (.aload_n 0, 1) := by decide +kernel
theorem d_MO_run_235 : decode b_MO_run 235 = .ok (.getfield 152, 3) := by decide +kernel
theorem d_MO_run_238 : decode b_MO_run 238 = .ok (.ireturn, 1) := by decide +kernel
theorem d_MO_look_0 : decode b_MO_look 0 = .ok (.aload_n 0, 1) := by decide +kernel
theorem d_MO_look_1 : decode b_MO_look 1 = .ok (.aload_n 0, 1) := by decide +kernel
theorem d_MO_look_2 : decode b_MO_look 2 = .ok (.getfield 109, 3) := by decide +kernel
theorem d_MO_look_5 : decode b_MO_look 5 = .ok (.ifCond .ne 7, 3) := by decide +kernel
theorem d_MO_look_8 : decode b_MO_look 8 = .ok (.iconst 1, 1) := by decide +kernel
theorem d_MO_look_9 : decode b_MO_look 9 = .ok (.goto 31, 3) := by decide +kernel
theorem d_MO_look_12 : decode b_MO_look 12 = .ok (.iload_n 1, 1) := by decide +kernel
theorem d_MO_look_13 : decode b_MO_look 13 = .ok (.iconst 0, 1) := by decide +kernel
theorem d_MO_look_14 : decode b_MO_look 14 = .ok (.aload_n 0, 1) := by decide +kernel
theorem d_MO_look_15 : decode b_MO_look 15 = .ok (.getfield 152, 3) := by decide +kernel
theorem d_MO_look_18 : decode b_MO_look 18 = .ok (.iconst 1, 1) := by decide +kernel
theorem d_MO_look_19 : decode b_MO_look 19 = .ok (.isub, 1) := by decide +kernel
theorem d_MO_look_20 : decode b_MO_look 20 = .ok (.invokestatic 102, 3) := by decide +kernel
theorem d_MO_look_23 : decode b_MO_look 23 = .ok (.ifCond .eq 12, 3) := by decide +kernel
theorem d_MO_look_26 : decode b_MO_look 26 = .ok (.iload_n 2, 1) := by decide +kernel
theorem d_MO_look_27 : decode b_MO_look 27 = .ok (.iconst 0, 1) := by decide +kernel
theorem d_MO_look_28 : decode b_MO_look 28 = .ok (.iload_n 3, 1) := by decide +kernel
theorem d_MO_look_29 : decode b_MO_look 29 = .ok (.invokestatic 102, 3) := by decide +kernel
theorem d_MO_look_32 : decode b_MO_look 32 = .ok (.ifCond .ne 7, 3) := by decide +kernel
theorem d_MO_look_35 : decode b_MO_look 35 = .ok (.iconst 2, 1) := by decide +kernel
theorem d_MO_look_36 : decode b_MO_look 36 = .ok (.goto 4, 3) := by decide +kernel
theorem d_MO_look_39 : decode b_MO_look 39 = .ok (.iconst 0, 1) := by decide +kernel
theorem d_MO_look_40 : decode b_MO_look 40 = .ok (.putfield 99, 3) := by decide +kernel
theorem d_MO_look_43 : decode b_MO_look 43 = .ok (.return_, 1) := by decide +kernel
theorem d_MO_isAlike_0 : decode b_MO_isAlike 0 = .ok (.aload_n 0, 1) := by decide +kernel
theorem d_MO_isAlike_1 : decode b_MO_isAlike 1 = .ok (.getfield 56, 3) := by decide +kernel
theorem d_MO_isAlike_4 : decode b_MO_isAlike 4 = .ok (.iload_n 1, 1) := by decide +kernel
theorem d_MO_isAlike_5 : decode b_MO_isAlike 5 = .ok (.iaload, 1) := by decide +kernel
theorem d_MO_isAlike_6 : decode b_MO_isAlike 6 = .ok (.aload_n 0, 1) := by decide +kernel
theorem d_MO_isAlike_7 : decode b_MO_isAlike 7 = .ok (.getfield 56, 3) := by decide +kernel
theorem d_MO_isAlike_10 : decode b_MO_isAlike 10 = .ok (.iload_n 2, 1) := by decide +kernel
theorem d_MO_isAlike_11 : decode b_MO_isAlike 11 = .ok (.iaload, 1) := by decide +kernel
theorem d_MO_isAlike_12 : decode b_MO_isAlike 12 = .ok (.if_icmp .ne 37, 3) := by decide +kernel
theorem d_MO_isAlike_15 : decode b_MO_isAlike 15 = .ok (.aload_n 0, 1) := by decide +kernel
theorem d_MO_isAlike_16 : decode b_MO_isAlike 16 = .ok (.getfield 77, 3) := by decide +kernel
theorem d_MO_isAlike_19 : decode b_MO_isAlike 19 = .ok (.iload_n 1, 1) := by decide +kernel
theorem d_MO_isAlike_20 : decode b_MO_isAlike 20 = .ok (.iaload, 1) := by decide +kernel
theorem d_MO_isAlike_21 : decode b_MO_isAlike 21 = .ok (.aload_n 0, 1) := by decide +kernel
theorem d_MO_isAlike_22 : decode b_MO_isAlike 22 = .ok (.getfield 77, 3) := by decide +kernel
theorem d_MO_isAlike_25 : decode b_MO_isAlike 25 = .ok (.iload_n 2, 1) := by decide +kernel
theorem d_MO_isAlike_26 : decode b_MO_isAlike 26 = .ok (.iaload, 1) := by decide +kernel
theorem d_MO_isAlike_27 : decode b_MO_isAlike 27 = .ok (.if_icmp .ne 22, 3) := by decide +kernel
theorem d_MO_isAlike_30 : decode b_MO_isAlike 30 = .ok (.aload_n 0, 1) := by decide +kernel
theorem d_MO_isAlike_31 : decode b_MO_isAlike 31 = .ok (.getfield 59, 3) := by decide +kernel
theorem d_MO_isAlike_34 : decode b_MO_isAlike 34 = .ok (.iload_n 1, 1) := by decide +kernel
theorem d_MO_isAlike_35 : decode b_MO_isAlike 35 = .ok (.iaload, 1) := by decide +kernel
theorem d_MO_isAlike_36 : decode b_MO_isAlike 36 = .ok (.aload_n 0, 1) := by decide +kernel
theorem d_MO_isAlike_37 : decode b_MO_isAlike 37 = .ok (.getfield 59, 3) := by decide +kernel
theorem d_MO_isAlike_40 : decode b_MO_isAlike 40 = .ok (.iload_n 2, 1) := by decide +kernel
theorem d_MO_isAlike_41 : decode b_MO_isAlike 41 = .ok (.iaload, 1) := by decide +kernel
theorem d_MO_isAlike_42 : decode b_MO_isAlike 42 = .ok (.if_icmp .ne 7, 3) := by decide +kernel
theorem d_MO_isAlike_45 : decode b_MO_isAlike 45 = .ok (.iconst 1, 1) := by decide +kernel
theorem d_MO_isAlike_46 : decode b_MO_isAlike 46 = .ok (.goto 4, 3) := by decide +kernel
theorem d_MO_isAlike_49 : decode b_MO_isAlike 49 = .ok (.iconst 0, 1) := by decide +kernel
theorem d_MO_isAlike_50 : decode b_MO_isAlike 50 = .ok (.istore_n 3, 1) := by decide +kernel
theorem d_MO_isAlike_51 : decode b_MO_isAlike 51 = .ok (.iconst 0, 1) := by decide +kernel
theorem d_MO_isAlike_52 : decode b_MO_isAlike 52 = .ok (.istore 4, 2) := by decide +kernel
theorem d_MO_isAlike_54 : decode b_MO_isAlike 54 = .ok (.iload_n 3, 1) := by decide +kernel
theorem d_MO_isAlike_55 : decode b_MO_isAlike 55 = .ok (.ifCond .eq 55, 3) := by decide +kernel
theorem d_MO_isAlike_58 : decode b_MO_isAlike 58 = .ok (.iload 4, 2) := by decide +kernel
theorem d_MO_isAlike_60 : decode b_MO_isAlike 60 = .ok (.aload_n 0, 1) := by decide +kernel
theorem d_MO_isAlike_61 : decode b_MO_isAlike 61 = .ok (.getfield 77, 3) := by decide +kernel
theorem d_MO_isAlike_64 : decode b_MO_isAlike 64 = .ok (.iload_n 1, 1) := by decide +kernel
theorem d_MO_isAlike_65 : decode b_MO_isAlike 65 = .ok (.iaload, 1) := by decide +kernel
theorem d_MO_isAlike_66 : decode b_MO_isAlike 66 = .ok (.if_icmp .ge 44, 3) := by decide +kernel
theorem d_MO_isAlike_69 : decode b_MO_isAlike 69 = .ok (.aload_n 0, 1) := by decide +kernel
theorem d_MO_isAlike_70 : decode b_MO_isAlike 70 = .ok (.getfield 80, 3) := by decide +kernel
theorem d_MO_isAlike_73 : decode b_MO_isAlike 73 = .ok (.sipush 600, 3) := by decide +kernel
theorem d_MO_isAlike_76 : decode b_MO_isAlike 76 = .ok (.iload_n 1, 1) := by decide +kernel
theorem d_MO_isAlike_77 : decode b_MO_isAlike 77 = .ok (.imul, 1) := by decide +kernel
theorem d_MO_isAlike_78 : decode b_MO_isAlike 78 = .ok (.iload 4, 2) := by decide +kernel
theorem d_MO_isAlike_80 : decode b_MO_isAlike 80 = .ok (.iadd, 1) := by decide +kernel
theorem d_MO_isAlike_81 : decode b_MO_isAlike 81 = .ok (.iaload, 1) := by decide +kernel
theorem d_MO_isAlike_82 : decode b_MO_isAlike 82 = .ok (.aload_n 0, 1) := by decide +kernel
theorem d_MO_isAlike_83 : decode b_MO_isAlike 83 = .ok (.getfield 80, 3) := by decide +kernel
theorem d_MO_isAlike_86 : decode b_MO_isAlike 86 = .ok (.sipush 600, 3) := by decide +kernel
theorem d_MO_isAlike_89 : decode b_MO_isAlike 89 = .ok (.iload_n 2, 1) := by decide +kernel
theorem d_MO_isAlike_90 : decode b_MO_isAlike 90 = .ok (.imul, 1) := by decide +kernel
theorem d_MO_isAlike_91 : decode b_MO_isAlike 91 = .ok (.iload 4, 2) := by decide +kernel
theorem d_MO_isAlike_93 : decode b_MO_isAlike 93 = .ok (.iadd, 1) := by decide +kernel
theorem d_MO_isAlike_94 : decode b_MO_isAlike 94 = .ok (.iaload, 1) := by decide +kernel
theorem d_MO_isAlike_95 : decode b_MO_isAlike 95 = .ok (.if_icmp .ne 7, 3) := by decide +kernel
theorem d_MO_isAlike_98 : decode b_MO_isAlike 98 = .ok (.iconst 1, 1) := by decide +kernel
theorem d_MO_isAlike_99 : decode b_MO_isAlike 99 = .ok (.goto 4, 3) := by decide +kernel
theorem d_MO_isAlike_102 : decode b_MO_isAlike 102 = .ok (.iconst 0, 1) := by decide +kernel
theorem d_MO_isAlike_103 : decode b_MO_isAlike 103 = .ok (.istore_n 3, 1) := by decide +kernel
theorem d_MO_isAlike_104 : decode b_MO_isAlike 104 = .ok (.iinc 4 1, 3) := by decide +kernel
theorem d_MO_isAlike_107 : decode b_MO_isAlike 107 = .ok (.goto (-53), 3) := by decide +kernel
theorem d_MO_isAlike_110 : decode b_MO_isAlike 110 = .ok (.iload_n 3, 1) := by decide +kernel
theorem d_MO_isAlike_111 : decode b_MO_isAlike 111 = .ok (.ireturn, 1) := by decide +kernel
theorem d_MO_cut_0 : decode b_MO_cut 0 = .ok (.aload_n 0, 1) := by decide +kernel
theorem d_MO_cut_1 : decode b_MO_cut 1 = .ok (.iload_n 1, 1) := by decide +kernel
theorem d_MO_cut_2 : decode b_MO_cut 2 = .ok (.iload_n 2, 1) := by decide +kernel
theorem d_MO_cut_3 : decode b_MO_cut 3 = .ok (.bipush 7, 2) := by decide +kernel
theorem d_MO_cut_5 : decode b_MO_cut 5 = .ok (.invokevirtual 159, 3) := by decide +kernel
theorem d_MO_cut_8 : decode b_MO_cut 8 = .ok (.aload_n 0, 1) := by decide +kernel
theorem d_MO_cut_9 : decode b_MO_cut 9 = .ok (.getfield 99, 3) := by decide +kernel
theorem d_MO_cut_12 : decode b_MO_cut 12 = .ok (.ifCond .le 5, 3) := by decide +kernel
theorem d_MO_cut_15 : decode b_MO_cut 15 = .ok (.iconst 0, 1) := by decide +kernel
theorem d_MO_cut_16 : decode b_MO_cut 16 = .ok (.ireturn, 1) := by decide +kernel
theorem d_MO_cut_17 : decode b_MO_cut 17 = .ok (.iload_n 2, 1) := by decide +kernel
theorem d_MO_cut_18 : decode b_MO_cut 18 = .ok (.tableswitch 91 0 6 #[42, 49, 56, 63, 70, 77, 84], 42) := by decide +kernel
theorem d_MO_cut_60 : decode b_MO_cut 60 = .ok (.aload_n 0, 1) := by decide +kernel
theorem d_MO_cut_61 : decode b_MO_cut 61 = .ok (.getfield 56, 3) := by decide +kernel
theorem d_MO_cut_64 : decode b_MO_cut 64 = .ok (.iload_n 1, 1) := by decide +kernel
theorem d_MO_cut_65 : decode b_MO_cut 65 = .ok (.iaload, 1) := by decide +kernel
theorem d_MO_cut_66 : decode b_MO_cut 66 = .ok (.ireturn, 1) := by decide +kernel
theorem d_MO_cut_67 : decode b_MO_cut 67 = .ok (.aload_n 0, 1) := by decide +kernel
theorem d_MO_cut_68 : decode b_MO_cut 68 = .ok (.getfield 68, 3) := by decide +kernel
theorem d_MO_cut_71 : decode b_MO_cut 71 = .ok (.iload_n 1, 1) := by decide +kernel
theorem d_MO_cut_72 : decode b_MO_cut 72 = .ok (.iaload, 1) := by decide +kernel
theorem d_MO_cut_73 : decode b_MO_cut 73 = .ok (.ireturn, 1) := by decide +kernel
theorem d_MO_cut_74 : decode b_MO_cut 74 = .ok (.aload_n 0, 1) := by decide +kernel
theorem d_MO_cut_75 : decode b_MO_cut 75 = .ok (.getfield 71, 3) := by decide +kernel
theorem d_MO_cut_78 : decode b_MO_cut 78 = .ok (.iload_n 1, 1) := by decide +kernel
theorem d_MO_cut_79 : decode b_MO_cut 79 = .ok (.iaload, 1) := by decide +kernel
theorem d_MO_cut_80 : decode b_MO_cut 80 = .ok (.ireturn, 1) := by decide +kernel
theorem d_MO_cut_81 : decode b_MO_cut 81 = .ok (.aload_n 0, 1) := by decide +kernel
theorem d_MO_cut_82 : decode b_MO_cut 82 = .ok (.getfield 62, 3) := by decide +kernel
theorem d_MO_cut_85 : decode b_MO_cut 85 = .ok (.iload_n 1, 1) := by decide +kernel
theorem d_MO_cut_86 : decode b_MO_cut 86 = .ok (.iaload, 1) := by decide +kernel
theorem d_MO_cut_87 : decode b_MO_cut 87 = .ok (.ireturn, 1) := by decide +kernel
theorem d_MO_cut_88 : decode b_MO_cut 88 = .ok (.aload_n 0, 1) := by decide +kernel
theorem d_MO_cut_89 : decode b_MO_cut 89 = .ok (.getfield 59, 3) := by decide +kernel
theorem d_MO_cut_92 : decode b_MO_cut 92 = .ok (.iload_n 1, 1) := by decide +kernel
theorem d_MO_cut_93 : decode b_MO_cut 93 = .ok (.iaload, 1) := by decide +kernel
theorem d_MO_cut_94 : decode b_MO_cut 94 = .ok (.ireturn, 1) := by decide +kernel
theorem d_MO_cut_95 : decode b_MO_cut 95 = .ok (.aload_n 0, 1) := by decide +kernel
theorem d_MO_cut_96 : decode b_MO_cut 96 = .ok (.getfield 65, 3) := by decide +kernel
theorem d_MO_cut_99 : decode b_MO_cut 99 = .ok (.iload_n 1, 1) := by decide +kernel
theorem d_MO_cut_100 : decode b_MO_cut 100 = .ok (.iaload, 1) := by decide +kernel
theorem d_MO_cut_101 : decode b_MO_cut 101 = .ok (.ireturn, 1) := by decide +kernel
theorem d_MO_cut_102 : decode b_MO_cut 102 = .ok (.aload_n 0, 1) := by decide +kernel
theorem d_MO_cut_103 : decode b_MO_cut 103 = .ok (.getfield 74, 3) := by decide +kernel
theorem d_MO_cut_106 : decode b_MO_cut 106 = .ok (.iload_n 1, 1) := by decide +kernel
theorem d_MO_cut_107 : decode b_MO_cut 107 = .ok (.iaload, 1) := by decide +kernel
theorem d_MO_cut_108 : decode b_MO_cut 108 = .ok (.ireturn, 1) := by decide +kernel
theorem d_MO_cut_109 : decode b_MO_cut 109 = .ok (.iconst 0, 1) := by decide +kernel
theorem d_MO_cut_110 : decode b_MO_cut 110 = .ok (.istore_n 3, 1) := by decide +kernel
theorem d_MO_cut_111 : decode b_MO_cut 111 = .ok (.aload_n 0, 1) := by decide +kernel
theorem d_MO_cut_112 : decode b_MO_cut 112 = .ok (.iload_n 3, 1) := by decide +kernel
theorem d_MO_cut_113 : decode b_MO_cut 113 = .ok (.iload_n 1, 1) := by decide +kernel
theorem d_MO_cut_114 : decode b_MO_cut 114 = .ok (.invokevirtual 163, 3) := by decide +kernel
theorem d_MO_cut_117 : decode b_MO_cut 117 = .ok (.ifCond .ne 9, 3) := by decide +kernel
theorem d_MO_cut_120 : decode b_MO_cut 120 = .ok (.iinc 3 1, 3) := by decide +kernel
theorem d_MO_cut_123 : decode b_MO_cut 123 = .ok (.goto (-12), 3) := by decide +kernel
theorem d_MO_cut_126 : decode b_MO_cut 126 = .ok (.iload_n 3, 1) := by decide +kernel
theorem d_MO_cut_127 : decode b_MO_cut 127 = .ok (.ireturn, 1) := by decide +kernel
theorem d_MO_taken_0 : decode b_MO_taken 0 = .ok (.aload_n 0, 1) := by decide +kernel
theorem d_MO_taken_1 : decode b_MO_taken 1 = .ok (.iload_n 1, 1) := by decide +kernel
theorem d_MO_taken_2 : decode b_MO_taken 2 = .ok (.iload_n 3, 1) := by decide +kernel
theorem d_MO_taken_3 : decode b_MO_taken 3 = .ok (.iconst 4, 1) := by decide +kernel
theorem d_MO_taken_4 : decode b_MO_taken 4 = .ok (.invokevirtual 159, 3) := by decide +kernel
theorem d_MO_taken_7 : decode b_MO_taken 7 = .ok (.aload_n 0, 1) := by decide +kernel
theorem d_MO_taken_8 : decode b_MO_taken 8 = .ok (.aload_n 0, 1) := by decide +kernel
theorem d_MO_taken_9 : decode b_MO_taken 9 = .ok (.getfield 99, 3) := by decide +kernel
theorem d_MO_taken_12 : decode b_MO_taken 12 = .ok (.ifCond .ne 23, 3) := by decide +kernel
theorem d_MO_taken_15 : decode b_MO_taken 15 = .ok (.iload_n 2, 1) := by decide +kernel
theorem d_MO_taken_16 : decode b_MO_taken 16 = .ok (.iconst 0, 1) := by decide +kernel
theorem d_MO_taken_17 : decode b_MO_taken 17 = .ok (.aload_n 0, 1) := by decide +kernel
theorem d_MO_taken_18 : decode b_MO_taken 18 = .ok (.getfield 68, 3) := by decide +kernel
theorem d_MO_taken_21 : decode b_MO_taken 21 = .ok (.iload_n 1, 1) := by decide +kernel
theorem d_MO_taken_22 : decode b_MO_taken 22 = .ok (.iaload, 1) := by decide +kernel
theorem d_MO_taken_23 : decode b_MO_taken 23 = .ok (.iconst 1, 1) := by decide +kernel
theorem d_MO_taken_24 : decode b_MO_taken 24 = .ok (.isub, 1) := by decide +kernel
theorem d_MO_taken_25 : decode b_MO_taken 25 = .ok (.invokestatic 102, 3) := by decide +kernel
theorem d_MO_taken_28 : decode b_MO_taken 28 = .ok (.ifCond .ne 7, 3) := by decide +kernel
theorem d_MO_taken_31 : decode b_MO_taken 31 = .ok (.iconst 2, 1) := by decide +kernel
theorem d_MO_taken_32 : decode b_MO_taken 32 = .ok (.goto 7, 3) := by decide +kernel
theorem d_MO_taken_35 : decode b_MO_taken 35 = .ok (.aload_n 0, 1) := by decide +kernel
theorem d_MO_taken_36 : decode b_MO_taken 36 = .ok (.getfield 99, 3) := by decide +kernel
theorem d_MO_taken_39 : decode b_MO_taken 39 = .ok (.putfield 99, 3) := by decide +kernel
theorem d_MO_taken_42 : decode b_MO_taken 42 = .ok (.aload_n 0, 1) := by decide +kernel
theorem d_MO_taken_43 : decode b_MO_taken 43 = .ok (.getfield 99, 3) := by decide +kernel
theorem d_MO_taken_46 : decode b_MO_taken 46 = .ok (.ifCond .le 7, 3) := by decide +kernel
theorem d_MO_taken_49 : decode b_MO_taken 49 = .ok (.iconst 0, 1) := by decide +kernel
theorem d_MO_taken_50 : decode b_MO_taken 50 = .ok (.goto 19, 3) := by decide +kernel
theorem d_MO_taken_53 : decode b_MO_taken 53 = .ok (.aload_n 0, 1) := by decide +kernel
theorem d_MO_taken_54 : decode b_MO_taken 54 = .ok (.getfield 83, 3) := by decide +kernel
theorem d_MO_taken_57 : decode b_MO_taken 57 = .ok (.iconst 5, 1) := by decide +kernel
theorem d_MO_taken_58 : decode b_MO_taken 58 = .ok (.sipush 256, 3) := by decide +kernel
theorem d_MO_taken_61 : decode b_MO_taken 61 = .ok (.iload_n 1, 1) := by decide +kernel
theorem d_MO_taken_62 : decode b_MO_taken 62 = .ok (.imul, 1) := by decide +kernel
theorem d_MO_taken_63 : decode b_MO_taken 63 = .ok (.iload_n 2, 1) := by decide +kernel
theorem d_MO_taken_64 : decode b_MO_taken 64 = .ok (.iadd, 1) := by decide +kernel
theorem d_MO_taken_65 : decode b_MO_taken 65 = .ok (.imul, 1) := by decide +kernel
theorem d_MO_taken_66 : decode b_MO_taken 66 = .ok (.iload_n 3, 1) := by decide +kernel
theorem d_MO_taken_67 : decode b_MO_taken 67 = .ok (.iadd, 1) := by decide +kernel
theorem d_MO_taken_68 : decode b_MO_taken 68 = .ok (.iaload, 1) := by decide +kernel
theorem d_MO_taken_69 : decode b_MO_taken 69 = .ok (.ireturn, 1) := by decide +kernel
theorem d_MO_rest_0 : decode b_MO_rest 0 = .ok (.aload_n 0, 1) := by decide +kernel
theorem d_MO_rest_1 : decode b_MO_rest 1 = .ok (.iload_n 1, 1) := by decide +kernel
theorem d_MO_rest_2 : decode b_MO_rest 2 = .ok (.iload_n 3, 1) := by decide +kernel
theorem d_MO_rest_3 : decode b_MO_rest 3 = .ok (.iconst 3, 1) := by decide +kernel
theorem d_MO_rest_4 : decode b_MO_rest 4 = .ok (.invokevirtual 159, 3) := by decide +kernel
theorem d_MO_rest_7 : decode b_MO_rest 7 = .ok (.aload_n 0, 1) := by decide +kernel
theorem d_MO_rest_8 : decode b_MO_rest 8 = .ok (.aload_n 0, 1) := by decide +kernel
theorem d_MO_rest_9 : decode b_MO_rest 9 = .ok (.getfield 99, 3) := by decide +kernel
theorem d_MO_rest_12 : decode b_MO_rest 12 = .ok (.ifCond .ne 23, 3) := by decide +kernel
theorem d_MO_rest_15 : decode b_MO_rest 15 = .ok (.iload_n 2, 1) := by decide +kernel
theorem d_MO_rest_16 : decode b_MO_rest 16 = .ok (.iconst 0, 1) := by decide +kernel
theorem d_MO_rest_17 : decode b_MO_rest 17 = .ok (.aload_n 0, 1) := by decide +kernel
theorem d_MO_rest_18 : decode b_MO_rest 18 = .ok (.getfield 74, 3) := by decide +kernel
theorem d_MO_rest_21 : decode b_MO_rest 21 = .ok (.iload_n 1, 1) := by decide +kernel
theorem d_MO_rest_22 : decode b_MO_rest 22 = .ok (.iaload, 1) := by decide +kernel
theorem d_MO_rest_23 : decode b_MO_rest 23 = .ok (.iconst 1, 1) := by decide +kernel
theorem d_MO_rest_24 : decode b_MO_rest 24 = .ok (.isub, 1) := by decide +kernel
theorem d_MO_rest_25 : decode b_MO_rest 25 = .ok (.invokestatic 102, 3) := by decide +kernel
theorem d_MO_rest_28 : decode b_MO_rest 28 = .ok (.ifCond .ne 7, 3) := by decide +kernel
theorem d_MO_rest_31 : decode b_MO_rest 31 = .ok (.iconst 2, 1) := by decide +kernel
theorem d_MO_rest_32 : decode b_MO_rest 32 = .ok (.goto 7, 3) := by decide +kernel
theorem d_MO_rest_35 : decode b_MO_rest 35 = .ok (.aload_n 0, 1) := by decide +kernel
theorem d_MO_rest_36 : decode b_MO_rest 36 = .ok (.getfield 99, 3) := by decide +kernel
theorem d_MO_rest_39 : decode b_MO_rest 39 = .ok (.putfield 99, 3) := by decide +kernel
theorem d_MO_rest_42 : decode b_MO_rest 42 = .ok (.aload_n 0, 1) := by decide +kernel
theorem d_MO_rest_43 : decode b_MO_rest 43 = .ok (.getfield 99, 3) := by decide +kernel
theorem d_MO_rest_46 : decode b_MO_rest 46 = .ok (.ifCond .le 7, 3) := by decide +kernel
theorem d_MO_rest_49 : decode b_MO_rest 49 = .ok (.iconst 0, 1) := by decide +kernel
theorem d_MO_rest_50 : decode b_MO_rest 50 = .ok (.goto 19, 3) := by decide +kernel
theorem d_MO_rest_53 : decode b_MO_rest 53 = .ok (.aload_n 0, 1) := by decide +kernel
theorem d_MO_rest_54 : decode b_MO_rest 54 = .ok (.getfield 86, 3) := by decide +kernel
theorem d_MO_rest_57 : decode b_MO_rest 57 = .ok (.iconst 4, 1) := by decide +kernel
theorem d_MO_rest_58 : decode b_MO_rest 58 = .ok (.sipush 256, 3) := by decide +kernel
theorem d_MO_rest_61 : decode b_MO_rest 61 = .ok (.iload_n 1, 1) := by decide +kernel
theorem d_MO_rest_62 : decode b_MO_rest 62 = .ok (.imul, 1) := by decide +kernel
theorem d_MO_rest_63 : decode b_MO_rest 63 = .ok (.iload_n 2, 1) := by decide +kernel
theorem d_MO_rest_64 : decode b_MO_rest 64 = .ok (.iadd, 1) := by decide +kernel
theorem d_MO_rest_65 : decode b_MO_rest 65 = .ok (.imul, 1) := by decide +kernel
theorem d_MO_rest_66 : decode b_MO_rest 66 = .ok (.iload_n 3, 1) := by decide +kernel
theorem d_MO_rest_67 : decode b_MO_rest 67 = .ok (.iadd, 1) := by decide +kernel
theorem d_MO_rest_68 : decode b_MO_rest 68 = .ok (.iaload, 1) := by decide +kernel
theorem d_MO_rest_69 : decode b_MO_rest 69 = .ok (.ireturn, 1) := by decide +kernel
theorem d_MO_left_0 : decode b_MO_left 0 = .ok (.aload_n 0, 1) := by decide +kernel
theorem d_MO_left_1 : decode b_MO_left 1 = .ok (.aload_n 0, 1) := by decide +kernel
theorem d_MO_left_2 : decode b_MO_left 2 = .ok (.getfield 109, 3) := by decide +kernel
theorem d_MO_left_5 : decode b_MO_left 5 = .ok (.ifCond .ne 7, 3) := by decide +kernel
theorem d_MO_left_8 : decode b_MO_left 8 = .ok (.iconst 1, 1) := by decide +kernel
theorem d_MO_left_9 : decode b_MO_left 9 = .ok (.goto 22, 3) := by decide +kernel
theorem d_MO_left_12 : decode b_MO_left 12 = .ok (.iload_n 1, 1) := by decide +kernel
theorem d_MO_left_13 : decode b_MO_left 13 = .ok (.iconst 0, 1) := by decide +kernel
theorem d_MO_left_14 : decode b_MO_left 14 = .ok (.aload_n 0, 1) := by decide +kernel
theorem d_MO_left_15 : decode b_MO_left 15 = .ok (.getfield 113, 3) := by decide +kernel
theorem d_MO_left_18 : decode b_MO_left 18 = .ok (.iconst 1, 1) := by decide +kernel
theorem d_MO_left_19 : decode b_MO_left 19 = .ok (.isub, 1) := by decide +kernel
theorem d_MO_left_20 : decode b_MO_left 20 = .ok (.invokestatic 102, 3) := by decide +kernel
theorem d_MO_left_23 : decode b_MO_left 23 = .ok (.ifCond .ne 7, 3) := by decide +kernel
theorem d_MO_left_26 : decode b_MO_left 26 = .ok (.iconst 2, 1) := by decide +kernel
theorem d_MO_left_27 : decode b_MO_left 27 = .ok (.goto 4, 3) := by decide +kernel
theorem d_MO_left_30 : decode b_MO_left 30 = .ok (.iconst 0, 1) := by decide +kernel
theorem d_MO_left_31 : decode b_MO_left 31 = .ok (.putfield 99, 3) := by decide +kernel
theorem d_MO_left_34 : decode b_MO_left 34 = .ok (.aload_n 0, 1) := by decide +kernel
theorem d_MO_left_35 : decode b_MO_left 35 = .ok (.getfield 99, 3) := by decide +kernel
theorem d_MO_left_38 : decode b_MO_left 38 = .ok (.ifCond .le 7, 3) := by decide +kernel
theorem d_MO_left_41 : decode b_MO_left 41 = .ok (.iconst 0, 1) := by decide +kernel
theorem d_MO_left_42 : decode b_MO_left 42 = .ok (.goto 9, 3) := by decide +kernel
theorem d_MO_left_45 : decode b_MO_left 45 = .ok (.aload_n 0, 1) := by decide +kernel
theorem d_MO_left_46 : decode b_MO_left 46 = .ok (.getfield 35, 3) := by decide +kernel
theorem d_MO_left_49 : decode b_MO_left 49 = .ok (.iload_n 1, 1) := by decide +kernel
theorem d_MO_left_50 : decode b_MO_left 50 = .ok (.iaload, 1) := by decide +kernel
theorem d_MO_left_51 : decode b_MO_left 51 = .ok (.ireturn, 1) := by decide +kernel
theorem d_MO_all_0 : decode b_MO_all 0 = .ok (.aload_n 0, 1) := by decide +kernel
theorem d_MO_all_1 : decode b_MO_all 1 = .ok (.aload_n 0, 1) := by decide +kernel
theorem d_MO_all_2 : decode b_MO_all 2 = .ok (.getfield 109, 3) := by decide +kernel
theorem d_MO_all_5 : decode b_MO_all 5 = .ok (.ifCond .ne 7, 3) := by decide +kernel
theorem d_MO_all_8 : decode b_MO_all 8 = .ok (.iconst 1, 1) := by decide +kernel
theorem d_MO_all_9 : decode b_MO_all 9 = .ok (.goto 17, 3) := by decide +kernel
theorem d_MO_all_12 : decode b_MO_all 12 = .ok (.iload_n 1, 1) := by decide +kernel
theorem d_MO_all_13 : decode b_MO_all 13 = .ok (.iconst 0, 1) := by decide +kernel
theorem d_MO_all_14 : decode b_MO_all 14 = .ok (.iconst 2, 1) := by decide +kernel
theorem d_MO_all_15 : decode b_MO_all 15 = .ok (.invokestatic 102, 3) := by decide +kernel
theorem d_MO_all_18 : decode b_MO_all 18 = .ok (.ifCond .ne 7, 3) := by decide +kernel
theorem d_MO_all_21 : decode b_MO_all 21 = .ok (.iconst 2, 1) := by decide +kernel
theorem d_MO_all_22 : decode b_MO_all 22 = .ok (.goto 4, 3) := by decide +kernel
theorem d_MO_all_25 : decode b_MO_all 25 = .ok (.iconst 0, 1) := by decide +kernel
theorem d_MO_all_26 : decode b_MO_all 26 = .ok (.putfield 99, 3) := by decide +kernel
theorem d_MO_all_29 : decode b_MO_all 29 = .ok (.lconst 0, 1) := by decide +kernel
theorem d_MO_all_30 : decode b_MO_all 30 = .ok (.lstore_n 2, 1) := by decide +kernel
theorem d_MO_all_31 : decode b_MO_all 31 = .ok (.iconst 0, 1) := by decide +kernel
theorem d_MO_all_32 : decode b_MO_all 32 = .ok (.istore 4, 2) := by decide +kernel
theorem d_MO_all_34 : decode b_MO_all 34 = .ok (.iload 4, 2) := by decide +kernel
theorem d_MO_all_36 : decode b_MO_all 36 = .ok (.aload_n 0, 1) := by decide +kernel
theorem d_MO_all_37 : decode b_MO_all 37 = .ok (.getfield 152, 3) := by decide +kernel
theorem d_MO_all_40 : decode b_MO_all 40 = .ok (.if_icmp .ge 75, 3) := by decide +kernel
theorem d_MO_all_43 : decode b_MO_all 43 = .ok (.aload_n 0, 1) := by decide +kernel
theorem d_MO_all_44 : decode b_MO_all 44 = .ok (.getfield 99, 3) := by decide +kernel
theorem d_MO_all_47 : decode b_MO_all 47 = .ok (.ifCond .ne 68, 3) := by decide +kernel
theorem d_MO_all_50 : decode b_MO_all 50 = .ok (.aload_n 0, 1) := by decide +kernel
theorem d_MO_all_51 : decode b_MO_all 51 = .ok (.getfield 56, 3) := by decide +kernel
theorem d_MO_all_54 : decode b_MO_all 54 = .ok (.iload 4, 2) := by decide +kernel
theorem d_MO_all_56 : decode b_MO_all 56 = .ok (.iaload, 1) := by decide +kernel
theorem d_MO_all_57 : decode b_MO_all 57 = .ok (.istore 5, 2) := by decide +kernel
theorem d_MO_all_59 : decode b_MO_all 59 = .ok (.lload_n 2, 1) := by decide +kernel
theorem d_MO_all_60 : decode b_MO_all 60 = .ok (.iload_n 1, 1) := by decide +kernel
theorem d_MO_all_61 : decode b_MO_all 61 = .ok (.ifCond .ne 14, 3) := by decide +kernel
theorem d_MO_all_64 : decode b_MO_all 64 = .ok (.aload_n 0, 1) := by decide +kernel
theorem d_MO_all_65 : decode b_MO_all 65 = .ok (.getfield 16, 3) := by decide +kernel
theorem d_MO_all_68 : decode b_MO_all 68 = .ok (.iload 5, 2) := by decide +kernel
theorem d_MO_all_70 : decode b_MO_all 70 = .ok (.iaload, 1) := by decide +kernel
theorem d_MO_all_71 : decode b_MO_all 71 = .ok (.i2l, 1) := by decide +kernel
theorem d_MO_all_72 : decode b_MO_all 72 = .ok (.goto 35, 3) := by decide +kernel
theorem d_MO_all_75 : decode b_MO_all 75 = .ok (.iload_n 1, 1) := by decide +kernel
theorem d_MO_all_76 : decode b_MO_all 76 = .ok (.iconst 1, 1) := by decide +kernel
theorem d_MO_all_77 : decode b_MO_all 77 = .ok (.if_icmp .ne 22, 3) := by decide +kernel
theorem d_MO_all_80 : decode b_MO_all 80 = .ok (.aload_n 0, 1) := by decide +kernel
theorem d_MO_all_81 : decode b_MO_all 81 = .ok (.getfield 7, 3) := by decide +kernel
theorem d_MO_all_84 : decode b_MO_all 84 = .ok (.iload 5, 2) := by decide +kernel
theorem d_MO_all_86 : decode b_MO_all 86 = .ok (.iaload, 1) := by decide +kernel
theorem d_MO_all_87 : decode b_MO_all 87 = .ok (.aload_n 0, 1) := by decide +kernel
theorem d_MO_all_88 : decode b_MO_all 88 = .ok (.getfield 13, 3) := by decide +kernel
theorem d_MO_all_91 : decode b_MO_all 91 = .ok (.iload 5, 2) := by decide +kernel
theorem d_MO_all_93 : decode b_MO_all 93 = .ok (.iaload, 1) := by decide +kernel
theorem d_MO_all_94 : decode b_MO_all 94 = .ok (.imul, 1) := by decide +kernel
theorem d_MO_all_95 : decode b_MO_all 95 = .ok (.i2l, 1) := by decide +kernel
theorem d_MO_all_96 : decode b_MO_all 96 = .ok (.goto 11, 3) := by decide +kernel
theorem d_MO_all_99 : decode b_MO_all 99 = .ok (.aload_n 0, 1) := by decide +kernel
theorem d_MO_all_100 : decode b_MO_all 100 = .ok (.getfield 71, 3) := by decide +kernel
theorem d_MO_all_103 : decode b_MO_all 103 = .ok (.iload 4, 2) := by decide +kernel
theorem d_MO_all_105 : decode b_MO_all 105 = .ok (.iaload, 1) := by decide +kernel
theorem d_MO_all_106 : decode b_MO_all 106 = .ok (.i2l, 1) := by decide +kernel
theorem d_MO_all_107 : decode b_MO_all 107 = .ok (.ladd, 1) := by decide +kernel
theorem d_MO_all_108 : decode b_MO_all 108 = .ok (.lstore_n 2, 1) := by decide +kernel
theorem d_MO_all_109 : decode b_MO_all 109 = .ok (.iinc 4 1, 3) := by decide +kernel
theorem d_MO_all_112 : decode b_MO_all 112 = .ok (.goto (-78), 3) := by decide +kernel
theorem d_MO_all_115 : decode b_MO_all 115 = .ok (.lload_n 2, 1) := by decide +kernel
theorem d_MO_all_116 : decode b_MO_all 116 = .ok (.lreturn, 1) := by decide +kernel
theorem d_MO_bound_0 : decode b_MO_bound 0 = .ok (.aload_n 0, 1) := by decide +kernel
theorem d_MO_bound_1 : decode b_MO_bound 1 = .ok (.iconst 0, 1) := by decide +kernel
theorem d_MO_bound_2 : decode b_MO_bound 2 = .ok (.putfield 99, 3) := by decide +kernel
theorem d_MO_bound_5 : decode b_MO_bound 5 = .ok (.iconst 0, 1) := by decide +kernel
theorem d_MO_bound_6 : decode b_MO_bound 6 = .ok (.istore_n 1, 1) := by decide +kernel
theorem d_MO_bound_7 : decode b_MO_bound 7 = .ok (.iconst 0, 1) := by decide +kernel
theorem d_MO_bound_8 : decode b_MO_bound 8 = .ok (.istore_n 2, 1) := by decide +kernel
theorem d_MO_bound_9 : decode b_MO_bound 9 = .ok (.iload_n 2, 1) := by decide +kernel
theorem d_MO_bound_10 : decode b_MO_bound 10 = .ok (.aload_n 0, 1) := by decide +kernel
theorem d_MO_bound_11 : decode b_MO_bound 11 = .ok (.getfield 113, 3) := by decide +kernel
theorem d_MO_bound_14 : decode b_MO_bound 14 = .ok (.if_icmp .ge 32, 3) := by decide +kernel
theorem d_MO_bound_17 : decode b_MO_bound 17 = .ok (.iload_n 1, 1) := by decide +kernel
theorem d_MO_bound_18 : decode b_MO_bound 18 = .ok (.aload_n 0, 1) := by decide +kernel
theorem d_MO_bound_19 : decode b_MO_bound 19 = .ok (.getfield 28, 3) := by decide +kernel
theorem d_MO_bound_22 : decode b_MO_bound 22 = .ok (.iload_n 2, 1) := by decide +kernel
theorem d_MO_bound_23 : decode b_MO_bound 23 = .ok (.iaload, 1) := by decide +kernel
theorem d_MO_bound_24 : decode b_MO_bound 24 = .ok (.aload_n 0, 1) := by decide +kernel
theorem d_MO_bound_25 : decode b_MO_bound 25 = .ok (.getfield 22, 3) := by decide +kernel
theorem d_MO_bound_28 : decode b_MO_bound 28 = .ok (.iload_n 2, 1) := by decide +kernel
theorem d_MO_bound_29 : decode b_MO_bound 29 = .ok (.iaload, 1) := by decide +kernel
theorem d_MO_bound_30 : decode b_MO_bound 30 = .ok (.imul, 1) := by decide +kernel
theorem d_MO_bound_31 : decode b_MO_bound 31 = .ok (.aload_n 0, 1) := by decide +kernel
theorem d_MO_bound_32 : decode b_MO_bound 32 = .ok (.getfield 25, 3) := by decide +kernel
theorem d_MO_bound_35 : decode b_MO_bound 35 = .ok (.iload_n 2, 1) := by decide +kernel
theorem d_MO_bound_36 : decode b_MO_bound 36 = .ok (.iaload, 1) := by decide +kernel
theorem d_MO_bound_37 : decode b_MO_bound 37 = .ok (.imul, 1) := by decide +kernel
theorem d_MO_bound_38 : decode b_MO_bound 38 = .ok (.iadd, 1) := by decide +kernel
theorem d_MO_bound_39 : decode b_MO_bound 39 = .ok (.istore_n 1, 1) := by decide +kernel
theorem d_MO_bound_40 : decode b_MO_bound 40 = .ok (.iinc 2 1, 3) := by decide +kernel
theorem d_MO_bound_43 : decode b_MO_bound 43 = .ok (.goto (-34), 3) := by decide +kernel
theorem d_MO_bound_46 : decode b_MO_bound 46 = .ok (.iconst 0, 1) := by decide +kernel
theorem d_MO_bound_47 : decode b_MO_bound 47 = .ok (.istore_n 2, 1) := by decide +kernel
theorem d_MO_bound_48 : decode b_MO_bound 48 = .ok (.iconst 0, 1) := by decide +kernel
theorem d_MO_bound_49 : decode b_MO_bound 49 = .ok (.istore_n 3, 1) := by decide +kernel
theorem d_MO_bound_50 : decode b_MO_bound 50 = .ok (.iload_n 3, 1) := by decide +kernel
theorem d_MO_bound_51 : decode b_MO_bound 51 = .ok (.aload_n 0, 1) := by decide +kernel
theorem d_MO_bound_52 : decode b_MO_bound 52 = .ok (.getfield 106, 3) := by decide +kernel
theorem d_MO_bound_55 : decode b_MO_bound 55 = .ok (.if_icmp .ge 44, 3) := by decide +kernel
theorem d_MO_bound_58 : decode b_MO_bound 58 = .ok (.aload_n 0, 1) := by decide +kernel
theorem d_MO_bound_59 : decode b_MO_bound 59 = .ok (.getfield 7, 3) := by decide +kernel
theorem d_MO_bound_62 : decode b_MO_bound 62 = .ok (.iload_n 3, 1) := by decide +kernel
theorem d_MO_bound_63 : decode b_MO_bound 63 = .ok (.iaload, 1) := by decide +kernel
theorem d_MO_bound_64 : decode b_MO_bound 64 = .ok (.aload_n 0, 1) := by decide +kernel
theorem d_MO_bound_65 : decode b_MO_bound 65 = .ok (.getfield 13, 3) := by decide +kernel
theorem d_MO_bound_68 : decode b_MO_bound 68 = .ok (.iload_n 3, 1) := by decide +kernel
theorem d_MO_bound_69 : decode b_MO_bound 69 = .ok (.iaload, 1) := by decide +kernel
theorem d_MO_bound_70 : decode b_MO_bound 70 = .ok (.imul, 1) := by decide +kernel
theorem d_MO_bound_71 : decode b_MO_bound 71 = .ok (.iload_n 2, 1) := by decide +kernel
theorem d_MO_bound_72 : decode b_MO_bound 72 = .ok (.if_icmp .le 19, 3) := by decide +kernel
theorem d_MO_bound_75 : decode b_MO_bound 75 = .ok (.aload_n 0, 1) := by decide +kernel
theorem d_MO_bound_76 : decode b_MO_bound 76 = .ok (.getfield 7, 3) := by decide +kernel
theorem d_MO_bound_79 : decode b_MO_bound 79 = .ok (.iload_n 3, 1) := by decide +kernel
theorem d_MO_bound_80 : decode b_MO_bound 80 = .ok (.iaload, 1) := by decide +kernel
theorem d_MO_bound_81 : decode b_MO_bound 81 = .ok (.aload_n 0, 1) := by decide +kernel
theorem d_MO_bound_82 : decode b_MO_bound 82 = .ok (.getfield 13, 3) := by decide +kernel
theorem d_MO_bound_85 : decode b_MO_bound 85 = .ok (.iload_n 3, 1) := by decide +kernel
theorem d_MO_bound_86 : decode b_MO_bound 86 = .ok (.iaload, 1) := by decide +kernel
theorem d_MO_bound_87 : decode b_MO_bound 87 = .ok (.imul, 1) := by decide +kernel
theorem d_MO_bound_88 : decode b_MO_bound 88 = .ok (.goto 4, 3) := by decide +kernel
theorem d_MO_bound_91 : decode b_MO_bound 91 = .ok (.iload_n 2, 1) := by decide +kernel
theorem d_MO_bound_92 : decode b_MO_bound 92 = .ok (.istore_n 2, 1) := by decide +kernel
theorem d_MO_bound_93 : decode b_MO_bound 93 = .ok (.iinc 3 1, 3) := by decide +kernel
theorem d_MO_bound_96 : decode b_MO_bound 96 = .ok (.goto (-46), 3) := by decide +kernel
theorem d_MO_bound_99 : decode b_MO_bound 99 = .ok (.iload_n 2, 1) := by decide +kernel
theorem d_MO_bound_100 : decode b_MO_bound 100 = .ok (.ifCond .ne 7, 3) := by decide +kernel
theorem d_MO_bound_103 : decode b_MO_bound 103 = .ok (.iconst 0, 1) := by decide +kernel
theorem d_MO_bound_104 : decode b_MO_bound 104 = .ok (.goto 10, 3) := by decide +kernel
theorem d_MO_bound_107 : decode b_MO_bound 107 = .ok (.iload_n 1, 1) := by decide +kernel
theorem d_MO_bound_108 : decode b_MO_bound 108 = .ok (.iload_n 2, 1) := by decide +kernel
theorem d_MO_bound_109 : decode b_MO_bound 109 = .ok (.iadd, 1) := by decide +kernel
theorem d_MO_bound_110 : decode b_MO_bound 110 = .ok (.iconst 1, 1) := by decide +kernel
theorem d_MO_bound_111 : decode b_MO_bound 111 = .ok (.isub, 1) := by decide +kernel
theorem d_MO_bound_112 : decode b_MO_bound 112 = .ok (.iload_n 2, 1) := by decide +kernel
theorem d_MO_bound_113 : decode b_MO_bound 113 = .ok (.idiv, 1) := by decide +kernel
theorem d_MO_bound_114 : decode b_MO_bound 114 = .ok (.ireturn, 1) := by decide +kernel
end
section
theorem d_LW_cell_0 : decode b_LW_cell 0 = .ok (.iload_n 1, 1) := by decide +kernel
theorem d_LW_cell_1 : decode b_LW_cell 1 = .ok (.aload_n 0, 1) := by decide +kernel
theorem d_LW_cell_2 : decode b_LW_cell 2 = .ok (.arraylength, 1) := by decide +kernel
theorem d_LW_cell_3 : decode b_LW_cell 3 = .ok (.if_icmp .ge 9, 3) := by decide +kernel
theorem d_LW_cell_6 : decode b_LW_cell 6 = .ok (.aload_n 0, 1) := by decide +kernel
theorem d_LW_cell_7 : decode b_LW_cell 7 = .ok (.iload_n 1, 1) := by decide +kernel
theorem d_LW_cell_8 : decode b_LW_cell 8 = .ok (.iaload, 1) := by decide +kernel
theorem d_LW_cell_9 : decode b_LW_cell 9 = .ok (.goto 4, 3) := by decide +kernel
theorem d_LW_cell_12 : decode b_LW_cell 12 = .ok (.iconst 0, 1) := by decide +kernel
theorem d_LW_cell_13 : decode b_LW_cell 13 = .ok (.ireturn, 1) := by decide +kernel
theorem d_LW_sheet_0 : decode b_LW_sheet 0 = .ok (.aload 5, 2) := by decide +kernel
theorem d_LW_sheet_2 : decode b_LW_sheet 2 = .ok (.iconst 0, 1) := by decide +kernel
theorem d_LW_sheet_3 : decode b_LW_sheet 3 = .ok (.aload_n 0, 1) := by decide +kernel
theorem d_LW_sheet_4 : decode b_LW_sheet 4 = .ok (.iload_n 1, 1) := by decide +kernel
theorem d_LW_sheet_5 : decode b_LW_sheet 5 = .ok (.iload_n 2, 1) := by decide +kernel
theorem d_LW_sheet_6 : decode b_LW_sheet 6 = .ok (.iload_n 3, 1) := by decide +kernel
theorem d_LW_sheet_7 : decode b_LW_sheet 7 = .ok (.iload 4, 2) := by decide +kernel
theorem d_LW_sheet_9 : decode b_LW_sheet 9 = .ok (.invokevirtual 7, 3) := by decide +kernel
theorem d_LW_sheet_12 : decode b_LW_sheet 12 = .ok (.i2l, 1) := by decide +kernel
theorem d_LW_sheet_13 : decode b_LW_sheet 13 = .ok (.lastore, 1) := by decide +kernel
theorem d_LW_sheet_14 : decode b_LW_sheet 14 = .ok (.goto 11, 3) := by decide +kernel
theorem d_LW_sheet_17 : decode b_LW_sheet 17 = .ok (.astore 6, 2) := by decide +kernel
theorem d_LW_sheet_19 : decode b_LW_sheet 19 = .ok (.iconst 1, 1) := by decide +kernel
theorem d_LW_sheet_20 : decode b_LW_sheet 20 = .ok (.ireturn, 1) := by decide +kernel
theorem d_LW_sheet_21 : decode b_LW_sheet 21 = .ok (.astore 6, 2) := by decide +kernel
theorem d_LW_sheet_23 : decode b_LW_sheet 23 = .ok (.iconst 2, 1) := by decide +kernel
theorem d_LW_sheet_24 : decode b_LW_sheet 24 = .ok (.ireturn, 1) := by decide +kernel
theorem d_LW_sheet_25 : decode b_LW_sheet 25 = .ok (.iconst 0, 1) := by decide +kernel
theorem d_LW_sheet_26 : decode b_LW_sheet 26 = .ok (.ireturn, 1) := by decide +kernel
theorem d_LW_part_0 : decode b_LW_part 0 = .ok (.aload 5, 2) := by decide +kernel
theorem d_LW_part_2 : decode b_LW_part 2 = .ok (.iconst 0, 1) := by decide +kernel
theorem d_LW_part_3 : decode b_LW_part 3 = .ok (.aload_n 0, 1) := by decide +kernel
theorem d_LW_part_4 : decode b_LW_part 4 = .ok (.iload_n 1, 1) := by decide +kernel
theorem d_LW_part_5 : decode b_LW_part 5 = .ok (.iload_n 2, 1) := by decide +kernel
theorem d_LW_part_6 : decode b_LW_part 6 = .ok (.iload_n 3, 1) := by decide +kernel
theorem d_LW_part_7 : decode b_LW_part 7 = .ok (.iload 4, 2) := by decide +kernel
theorem d_LW_part_9 : decode b_LW_part 9 = .ok (.invokevirtual 17, 3) := by decide +kernel
theorem d_LW_part_12 : decode b_LW_part 12 = .ok (.i2l, 1) := by decide +kernel
theorem d_LW_part_13 : decode b_LW_part 13 = .ok (.lastore, 1) := by decide +kernel
theorem d_LW_part_14 : decode b_LW_part 14 = .ok (.goto 11, 3) := by decide +kernel
theorem d_LW_part_17 : decode b_LW_part 17 = .ok (.astore 6, 2) := by decide +kernel
theorem d_LW_part_19 : decode b_LW_part 19 = .ok (.iconst 1, 1) := by decide +kernel
theorem d_LW_part_20 : decode b_LW_part 20 = .ok (.ireturn, 1) := by decide +kernel
theorem d_LW_part_21 : decode b_LW_part 21 = .ok (.astore 6, 2) := by decide +kernel
theorem d_LW_part_23 : decode b_LW_part 23 = .ok (.iconst 2, 1) := by decide +kernel
theorem d_LW_part_24 : decode b_LW_part 24 = .ok (.ireturn, 1) := by decide +kernel
theorem d_LW_part_25 : decode b_LW_part 25 = .ok (.iconst 0, 1) := by decide +kernel
theorem d_LW_part_26 : decode b_LW_part 26 = .ok (.ireturn, 1) := by decide +kernel
theorem d_LW_count_0 : decode b_LW_count 0 = .ok (.aload_n 3, 1) := by decide +kernel
theorem d_LW_count_1 : decode b_LW_count 1 = .ok (.iconst 0, 1) := by decide +kernel
theorem d_LW_count_2 : decode b_LW_count 2 = .ok (.aload_n 0, 1) := by decide +kernel
theorem d_LW_count_3 : decode b_LW_count 3 = .ok (.iload_n 1, 1) := by decide +kernel
theorem d_LW_count_4 : decode b_LW_count 4 = .ok (.iload_n 2, 1) := by decide +kernel
theorem d_LW_count_5 : decode b_LW_count 5 = .ok (.invokevirtual 21, 3) := by decide +kernel
theorem d_LW_count_8 : decode b_LW_count 8 = .ok (.i2l, 1) := by decide +kernel
theorem d_LW_count_9 : decode b_LW_count 9 = .ok (.lastore, 1) := by decide +kernel
theorem d_LW_count_10 : decode b_LW_count 10 = .ok (.goto 11, 3) := by decide +kernel
theorem d_LW_count_13 : decode b_LW_count 13 = .ok (.astore 4, 2) := by decide +kernel
theorem d_LW_count_15 : decode b_LW_count 15 = .ok (.iconst 1, 1) := by decide +kernel
theorem d_LW_count_16 : decode b_LW_count 16 = .ok (.ireturn, 1) := by decide +kernel
theorem d_LW_count_17 : decode b_LW_count 17 = .ok (.astore 4, 2) := by decide +kernel
theorem d_LW_count_19 : decode b_LW_count 19 = .ok (.iconst 2, 1) := by decide +kernel
theorem d_LW_count_20 : decode b_LW_count 20 = .ok (.ireturn, 1) := by decide +kernel
theorem d_LW_count_21 : decode b_LW_count 21 = .ok (.iconst 0, 1) := by decide +kernel
theorem d_LW_count_22 : decode b_LW_count 22 = .ok (.ireturn, 1) := by decide +kernel
theorem d_LW_worth_0 : decode b_LW_worth 0 = .ok (.aload 5, 2) := by decide +kernel
theorem d_LW_worth_2 : decode b_LW_worth 2 = .ok (.iconst 0, 1) := by decide +kernel
theorem d_LW_worth_3 : decode b_LW_worth 3 = .ok (.aload_n 0, 1) := by decide +kernel
theorem d_LW_worth_4 : decode b_LW_worth 4 = .ok (.iload_n 1, 1) := by decide +kernel
theorem d_LW_worth_5 : decode b_LW_worth 5 = .ok (.iload_n 2, 1) := by decide +kernel
theorem d_LW_worth_6 : decode b_LW_worth 6 = .ok (.iload_n 3, 1) := by decide +kernel
theorem d_LW_worth_7 : decode b_LW_worth 7 = .ok (.iload 4, 2) := by decide +kernel
theorem d_LW_worth_9 : decode b_LW_worth 9 = .ok (.invokevirtual 27, 3) := by decide +kernel
theorem d_LW_worth_12 : decode b_LW_worth 12 = .ok (.i2l, 1) := by decide +kernel
theorem d_LW_worth_13 : decode b_LW_worth 13 = .ok (.lastore, 1) := by decide +kernel
theorem d_LW_worth_14 : decode b_LW_worth 14 = .ok (.goto 7, 3) := by decide +kernel
theorem d_LW_worth_17 : decode b_LW_worth 17 = .ok (.astore 6, 2) := by decide +kernel
theorem d_LW_worth_19 : decode b_LW_worth 19 = .ok (.iconst 1, 1) := by decide +kernel
theorem d_LW_worth_20 : decode b_LW_worth 20 = .ok (.ireturn, 1) := by decide +kernel
theorem d_LW_worth_21 : decode b_LW_worth 21 = .ok (.iconst 0, 1) := by decide +kernel
theorem d_LW_worth_22 : decode b_LW_worth 22 = .ok (.ireturn, 1) := by decide +kernel
theorem d_LW_cut_0 : decode b_LW_cut 0 = .ok (.aload_n 3, 1) := by decide +kernel
theorem d_LW_cut_1 : decode b_LW_cut 1 = .ok (.iconst 0, 1) := by decide +kernel
theorem d_LW_cut_2 : decode b_LW_cut 2 = .ok (.aload_n 0, 1) := by decide +kernel
theorem d_LW_cut_3 : decode b_LW_cut 3 = .ok (.iload_n 1, 1) := by decide +kernel
theorem d_LW_cut_4 : decode b_LW_cut 4 = .ok (.iload_n 2, 1) := by decide +kernel
theorem d_LW_cut_5 : decode b_LW_cut 5 = .ok (.invokevirtual 30, 3) := by decide +kernel
theorem d_LW_cut_8 : decode b_LW_cut 8 = .ok (.i2l, 1) := by decide +kernel
theorem d_LW_cut_9 : decode b_LW_cut 9 = .ok (.lastore, 1) := by decide +kernel
theorem d_LW_cut_10 : decode b_LW_cut 10 = .ok (.goto 11, 3) := by decide +kernel
theorem d_LW_cut_13 : decode b_LW_cut 13 = .ok (.astore 4, 2) := by decide +kernel
theorem d_LW_cut_15 : decode b_LW_cut 15 = .ok (.iconst 1, 1) := by decide +kernel
theorem d_LW_cut_16 : decode b_LW_cut 16 = .ok (.ireturn, 1) := by decide +kernel
theorem d_LW_cut_17 : decode b_LW_cut 17 = .ok (.astore 4, 2) := by decide +kernel
theorem d_LW_cut_19 : decode b_LW_cut 19 = .ok (.iconst 2, 1) := by decide +kernel
theorem d_LW_cut_20 : decode b_LW_cut 20 = .ok (.ireturn, 1) := by decide +kernel
theorem d_LW_cut_21 : decode b_LW_cut 21 = .ok (.iconst 0, 1) := by decide +kernel
theorem d_LW_cut_22 : decode b_LW_cut 22 = .ok (.ireturn, 1) := by decide +kernel
theorem d_LW_taken_0 : decode b_LW_taken 0 = .ok (.aload 4, 2) := by decide +kernel
theorem d_LW_taken_2 : decode b_LW_taken 2 = .ok (.iconst 0, 1) := by decide +kernel
theorem d_LW_taken_3 : decode b_LW_taken 3 = .ok (.aload_n 0, 1) := by decide +kernel
theorem d_LW_taken_4 : decode b_LW_taken 4 = .ok (.iload_n 1, 1) := by decide +kernel
theorem d_LW_taken_5 : decode b_LW_taken 5 = .ok (.iload_n 2, 1) := by decide +kernel
theorem d_LW_taken_6 : decode b_LW_taken 6 = .ok (.iload_n 3, 1) := by decide +kernel
theorem d_LW_taken_7 : decode b_LW_taken 7 = .ok (.invokevirtual 33, 3) := by decide +kernel
theorem d_LW_taken_10 : decode b_LW_taken 10 = .ok (.i2l, 1) := by decide +kernel
theorem d_LW_taken_11 : decode b_LW_taken 11 = .ok (.lastore, 1) := by decide +kernel
theorem d_LW_taken_12 : decode b_LW_taken 12 = .ok (.goto 11, 3) := by decide +kernel
theorem d_LW_taken_15 : decode b_LW_taken 15 = .ok (.astore 5, 2) := by decide +kernel
theorem d_LW_taken_17 : decode b_LW_taken 17 = .ok (.iconst 1, 1) := by decide +kernel
theorem d_LW_taken_18 : decode b_LW_taken 18 = .ok (.ireturn, 1) := by decide +kernel
theorem d_LW_taken_19 : decode b_LW_taken 19 = .ok (.astore 5, 2) := by decide +kernel
theorem d_LW_taken_21 : decode b_LW_taken 21 = .ok (.iconst 2, 1) := by decide +kernel
theorem d_LW_taken_22 : decode b_LW_taken 22 = .ok (.ireturn, 1) := by decide +kernel
theorem d_LW_taken_23 : decode b_LW_taken 23 = .ok (.iconst 0, 1) := by decide +kernel
theorem d_LW_taken_24 : decode b_LW_taken 24 = .ok (.ireturn, 1) := by decide +kernel
theorem d_LW_rest_0 : decode b_LW_rest 0 = .ok (.aload 4, 2) := by decide +kernel
theorem d_LW_rest_2 : decode b_LW_rest 2 = .ok (.iconst 0, 1) := by decide +kernel
theorem d_LW_rest_3 : decode b_LW_rest 3 = .ok (.aload_n 0, 1) := by decide +kernel
theorem d_LW_rest_4 : decode b_LW_rest 4 = .ok (.iload_n 1, 1) := by decide +kernel
theorem d_LW_rest_5 : decode b_LW_rest 5 = .ok (.iload_n 2, 1) := by decide +kernel
theorem d_LW_rest_6 : decode b_LW_rest 6 = .ok (.iload_n 3, 1) := by decide +kernel
theorem d_LW_rest_7 : decode b_LW_rest 7 = .ok (.invokevirtual 37, 3) := by decide +kernel
theorem d_LW_rest_10 : decode b_LW_rest 10 = .ok (.i2l, 1) := by decide +kernel
theorem d_LW_rest_11 : decode b_LW_rest 11 = .ok (.lastore, 1) := by decide +kernel
theorem d_LW_rest_12 : decode b_LW_rest 12 = .ok (.goto 11, 3) := by decide +kernel
theorem d_LW_rest_15 : decode b_LW_rest 15 = .ok (.astore 5, 2) := by decide +kernel
theorem d_LW_rest_17 : decode b_LW_rest 17 = .ok (.iconst 1, 1) := by decide +kernel
theorem d_LW_rest_18 : decode b_LW_rest 18 = .ok (.ireturn, 1) := by decide +kernel
theorem d_LW_rest_19 : decode b_LW_rest 19 = .ok (.astore 5, 2) := by decide +kernel
theorem d_LW_rest_21 : decode b_LW_rest 21 = .ok (.iconst 2, 1) := by decide +kernel
theorem d_LW_rest_22 : decode b_LW_rest 22 = .ok (.ireturn, 1) := by decide +kernel
theorem d_LW_rest_23 : decode b_LW_rest 23 = .ok (.iconst 0, 1) := by decide +kernel
theorem d_LW_rest_24 : decode b_LW_rest 24 = .ok (.ireturn, 1) := by decide +kernel
theorem d_LW_left_0 : decode b_LW_left 0 = .ok (.aload_n 2, 1) := by decide +kernel
theorem d_LW_left_1 : decode b_LW_left 1 = .ok (.iconst 0, 1) := by decide +kernel
theorem d_LW_left_2 : decode b_LW_left 2 = .ok (.aload_n 0, 1) := by decide +kernel
theorem d_LW_left_3 : decode b_LW_left 3 = .ok (.iload_n 1, 1) := by decide +kernel
theorem d_LW_left_4 : decode b_LW_left 4 = .ok (.invokevirtual 40, 3) := by decide +kernel
theorem d_LW_left_7 : decode b_LW_left 7 = .ok (.i2l, 1) := by decide +kernel
theorem d_LW_left_8 : decode b_LW_left 8 = .ok (.lastore, 1) := by decide +kernel
theorem d_LW_left_9 : decode b_LW_left 9 = .ok (.goto 9, 3) := by decide +kernel
theorem d_LW_left_12 : decode b_LW_left 12 = .ok (.astore_n 3, 1) := by decide +kernel
theorem d_LW_left_13 : decode b_LW_left 13 = .ok (.iconst 1, 1) := by decide +kernel
theorem d_LW_left_14 : decode b_LW_left 14 = .ok (.ireturn, 1) := by decide +kernel
theorem d_LW_left_15 : decode b_LW_left 15 = .ok (.astore_n 3, 1) := by decide +kernel
theorem d_LW_left_16 : decode b_LW_left 16 = .ok (.iconst 2, 1) := by decide +kernel
theorem d_LW_left_17 : decode b_LW_left 17 = .ok (.ireturn, 1) := by decide +kernel
theorem d_LW_left_18 : decode b_LW_left 18 = .ok (.iconst 0, 1) := by decide +kernel
theorem d_LW_left_19 : decode b_LW_left 19 = .ok (.ireturn, 1) := by decide +kernel
theorem d_LW_all_0 : decode b_LW_all 0 = .ok (.aload_n 2, 1) := by decide +kernel
theorem d_LW_all_1 : decode b_LW_all 1 = .ok (.iconst 0, 1) := by decide +kernel
theorem d_LW_all_2 : decode b_LW_all 2 = .ok (.aload_n 0, 1) := by decide +kernel
theorem d_LW_all_3 : decode b_LW_all 3 = .ok (.iload_n 1, 1) := by decide +kernel
theorem d_LW_all_4 : decode b_LW_all 4 = .ok (.invokevirtual 44, 3) := by decide +kernel
theorem d_LW_all_7 : decode b_LW_all 7 = .ok (.lastore, 1) := by decide +kernel
theorem d_LW_all_8 : decode b_LW_all 8 = .ok (.goto 9, 3) := by decide +kernel
theorem d_LW_all_11 : decode b_LW_all 11 = .ok (.astore_n 3, 1) := by decide +kernel
theorem d_LW_all_12 : decode b_LW_all 12 = .ok (.iconst 1, 1) := by decide +kernel
theorem d_LW_all_13 : decode b_LW_all 13 = .ok (.ireturn, 1) := by decide +kernel
theorem d_LW_all_14 : decode b_LW_all 14 = .ok (.astore_n 3, 1) := by decide +kernel
theorem d_LW_all_15 : decode b_LW_all 15 = .ok (.iconst 2, 1) := by decide +kernel
theorem d_LW_all_16 : decode b_LW_all 16 = .ok (.ireturn, 1) := by decide +kernel
theorem d_LW_all_17 : decode b_LW_all 17 = .ok (.iconst 0, 1) := by decide +kernel
theorem d_LW_all_18 : decode b_LW_all 18 = .ok (.ireturn, 1) := by decide +kernel
end
section
theorem d_LW_law_0 : decode code 0 = .ok (.new 8, 3) := by decide +kernel
theorem d_LW_law_3 : decode code 3 = .ok (.dup, 1) := by decide +kernel
theorem d_LW_law_4 : decode code 4 = .ok (.aload_n 0, 1) := by decide +kernel
theorem d_LW_law_5 : decode code 5 = .ok (.iconst 0, 1) := by decide +kernel
theorem d_LW_law_6 : decode code 6 = .ok (.invokestatic 48, 3) := by decide +kernel
theorem d_LW_law_9 : decode code 9 = .ok (.aload_n 0, 1) := by decide +kernel
theorem d_LW_law_10 : decode code 10 = .ok (.iconst 1, 1) := by decide +kernel
theorem d_LW_law_11 : decode code 11 = .ok (.invokestatic 48, 3) := by decide +kernel
theorem d_LW_law_14 : decode code 14 = .ok (.aload_n 0, 1) := by decide +kernel
theorem d_LW_law_15 : decode code 15 = .ok (.iconst 2, 1) := by decide +kernel
theorem d_LW_law_16 : decode code 16 = .ok (.invokestatic 48, 3) := by decide +kernel
theorem d_LW_law_19 : decode code 19 = .ok (.invokespecial 54, 3) := by decide +kernel
theorem d_LW_law_22 : decode code 22 = .ok (.astore_n 1, 1) := by decide +kernel
theorem d_LW_law_23 : decode code 23 = .ok (.new 57, 3) := by decide +kernel
theorem d_LW_law_26 : decode code 26 = .ok (.dup, 1) := by decide +kernel
theorem d_LW_law_27 : decode code 27 = .ok (.aload_n 0, 1) := by decide +kernel
theorem d_LW_law_28 : decode code 28 = .ok (.iconst 0, 1) := by decide +kernel
theorem d_LW_law_29 : decode code 29 = .ok (.invokestatic 48, 3) := by decide +kernel
theorem d_LW_law_32 : decode code 32 = .ok (.aload_n 0, 1) := by decide +kernel
theorem d_LW_law_33 : decode code 33 = .ok (.iconst 1, 1) := by decide +kernel
theorem d_LW_law_34 : decode code 34 = .ok (.invokestatic 48, 3) := by decide +kernel
theorem d_LW_law_37 : decode code 37 = .ok (.aload_n 0, 1) := by decide +kernel
theorem d_LW_law_38 : decode code 38 = .ok (.iconst 2, 1) := by decide +kernel
theorem d_LW_law_39 : decode code 39 = .ok (.invokestatic 48, 3) := by decide +kernel
theorem d_LW_law_42 : decode code 42 = .ok (.invokespecial 59, 3) := by decide +kernel
theorem d_LW_law_45 : decode code 45 = .ok (.astore_n 2, 1) := by decide +kernel
theorem d_LW_law_46 : decode code 46 = .ok (.iconst 1, 1) := by decide +kernel
theorem d_LW_law_47 : decode code 47 = .ok (.newarray .long, 2) := by decide +kernel
theorem d_LW_law_49 : decode code 49 = .ok (.astore_n 3, 1) := by decide +kernel
theorem d_LW_law_50 : decode code 50 = .ok (.iconst 3, 1) := by decide +kernel
theorem d_LW_law_51 : decode code 51 = .ok (.istore 4, 2) := by decide +kernel
theorem d_LW_law_53 : decode code 53 = .ok (.iload 4, 2) := by decide +kernel
theorem d_LW_law_55 : decode code 55 = .ok (.aload_n 0, 1) := by decide +kernel
theorem d_LW_law_56 : decode code 56 = .ok (.arraylength, 1) := by decide +kernel
theorem d_LW_law_57 : decode code 57 = .ok (.iconst 5, 1) := by decide +kernel
theorem d_LW_law_58 : decode code 58 = .ok (.isub, 1) := by decide +kernel
theorem d_LW_law_59 : decode code 59 = .ok (.if_icmp .gt 800, 3) := by decide +kernel
theorem d_LW_law_62 : decode code 62 = .ok (.aload_n 0, 1) := by decide +kernel
theorem d_LW_law_63 : decode code 63 = .ok (.iload 4, 2) := by decide +kernel
theorem d_LW_law_65 : decode code 65 = .ok (.iaload, 1) := by decide +kernel
theorem d_LW_law_66 : decode code 66 = .ok (.bipush 15, 2) := by decide +kernel
theorem d_LW_law_68 : decode code 68 = .ok (.iand, 1) := by decide +kernel
theorem d_LW_law_69 : decode code 69 = .ok (.tableswitch 784 0 10 #[59, 151, 259, 327, 419, 432, 500, 580, 660, 716, 771], 59) := by decide +kernel
theorem d_LW_law_128 : decode code 128 = .ok (.aload_n 1, 1) := by decide +kernel
theorem d_LW_law_129 : decode code 129 = .ok (.aload_n 0, 1) := by decide +kernel
theorem d_LW_law_130 : decode code 130 = .ok (.iload 4, 2) := by decide +kernel
theorem d_LW_law_132 : decode code 132 = .ok (.iconst 1, 1) := by decide +kernel
theorem d_LW_law_133 : decode code 133 = .ok (.iadd, 1) := by decide +kernel
theorem d_LW_law_134 : decode code 134 = .ok (.iaload, 1) := by decide +kernel
theorem d_LW_law_135 : decode code 135 = .ok (.aload_n 0, 1) := by decide +kernel
theorem d_LW_law_136 : decode code 136 = .ok (.iload 4, 2) := by decide +kernel
theorem d_LW_law_138 : decode code 138 = .ok (.iconst 2, 1) := by decide +kernel
theorem d_LW_law_139 : decode code 139 = .ok (.iadd, 1) := by decide +kernel
theorem d_LW_law_140 : decode code 140 = .ok (.iaload, 1) := by decide +kernel
theorem d_LW_law_141 : decode code 141 = .ok (.aload_n 0, 1) := by decide +kernel
theorem d_LW_law_142 : decode code 142 = .ok (.iload 4, 2) := by decide +kernel
theorem d_LW_law_144 : decode code 144 = .ok (.iconst 3, 1) := by decide +kernel
theorem d_LW_law_145 : decode code 145 = .ok (.iadd, 1) := by decide +kernel
theorem d_LW_law_146 : decode code 146 = .ok (.iaload, 1) := by decide +kernel
theorem d_LW_law_147 : decode code 147 = .ok (.aload_n 0, 1) := by decide +kernel
theorem d_LW_law_148 : decode code 148 = .ok (.iload 4, 2) := by decide +kernel
theorem d_LW_law_150 : decode code 150 = .ok (.iconst 4, 1) := by decide +kernel
theorem d_LW_law_151 : decode code 151 = .ok (.iadd, 1) := by decide +kernel
theorem d_LW_law_152 : decode code 152 = .ok (.iaload, 1) := by decide +kernel
theorem d_LW_law_153 : decode code 153 = .ok (.aload_n 3, 1) := by decide +kernel
theorem d_LW_law_154 : decode code 154 = .ok (.invokestatic 60, 3) := by decide +kernel
theorem d_LW_law_157 : decode code 157 = .ok (.istore 5, 2) := by decide +kernel
theorem d_LW_law_159 : decode code 159 = .ok (.aload_n 2, 1) := by decide +kernel
theorem d_LW_law_160 : decode code 160 = .ok (.aload_n 0, 1) := by decide +kernel
theorem d_LW_law_161 : decode code 161 = .ok (.iload 4, 2) := by decide +kernel
theorem d_LW_law_163 : decode code 163 = .ok (.iconst 1, 1) := by decide +kernel
theorem d_LW_law_164 : decode code 164 = .ok (.iadd, 1) := by decide +kernel
theorem d_LW_law_165 : decode code 165 = .ok (.iaload, 1) := by decide +kernel
theorem d_LW_law_166 : decode code 166 = .ok (.aload_n 0, 1) := by decide +kernel
theorem d_LW_law_167 : decode code 167 = .ok (.iload 4, 2) := by decide +kernel
theorem d_LW_law_169 : decode code 169 = .ok (.iconst 2, 1) := by decide +kernel
theorem d_LW_law_170 : decode code 170 = .ok (.iadd, 1) := by decide +kernel
theorem d_LW_law_171 : decode code 171 = .ok (.iaload, 1) := by decide +kernel
theorem d_LW_law_172 : decode code 172 = .ok (.aload_n 0, 1) := by decide +kernel
theorem d_LW_law_173 : decode code 173 = .ok (.iload 4, 2) := by decide +kernel
theorem d_LW_law_175 : decode code 175 = .ok (.iconst 3, 1) := by decide +kernel
theorem d_LW_law_176 : decode code 176 = .ok (.iadd, 1) := by decide +kernel
theorem d_LW_law_177 : decode code 177 = .ok (.iaload, 1) := by decide +kernel
theorem d_LW_law_178 : decode code 178 = .ok (.aload_n 0, 1) := by decide +kernel
theorem d_LW_law_179 : decode code 179 = .ok (.iload 4, 2) := by decide +kernel
theorem d_LW_law_181 : decode code 181 = .ok (.iconst 4, 1) := by decide +kernel
theorem d_LW_law_182 : decode code 182 = .ok (.iadd, 1) := by decide +kernel
theorem d_LW_law_183 : decode code 183 = .ok (.iaload, 1) := by decide +kernel
theorem d_LW_law_184 : decode code 184 = .ok (.invokevirtual 63, 3) := by decide +kernel
theorem d_LW_law_187 : decode code 187 = .ok (.istore 6, 2) := by decide +kernel
theorem d_LW_law_189 : decode code 189 = .ok (.aload_n 2, 1) := by decide +kernel
theorem d_LW_law_190 : decode code 190 = .ok (.invokevirtual 64, 3) := by decide +kernel
theorem d_LW_law_193 : decode code 193 = .ok (.iload 5, 2) := by decide +kernel
theorem d_LW_law_195 : decode code 195 = .ok (.if_icmp .eq 5, 3) := by decide +kernel
theorem d_LW_law_198 : decode code 198 = .ok (.iconst 0, 1) := by decide +kernel
theorem d_LW_law_199 : decode code 199 = .ok (.ireturn, 1) := by decide +kernel
theorem d_LW_law_200 : decode code 200 = .ok (.iload 5, 2) := by decide +kernel
theorem d_LW_law_202 : decode code 202 = .ok (.ifCond .ne 15, 3) := by decide +kernel
theorem d_LW_law_205 : decode code 205 = .ok (.aload_n 3, 1) := by decide +kernel
theorem d_LW_law_206 : decode code 206 = .ok (.iconst 0, 1) := by decide +kernel
theorem d_LW_law_207 : decode code 207 = .ok (.laload, 1) := by decide +kernel
theorem d_LW_law_208 : decode code 208 = .ok (.iload 6, 2) := by decide +kernel
theorem d_LW_law_210 : decode code 210 = .ok (.i2l, 1) := by decide +kernel
theorem d_LW_law_211 : decode code 211 = .ok (.lcmp, 1) := by decide +kernel
theorem d_LW_law_212 : decode code 212 = .ok (.ifCond .eq 5, 3) := by decide +kernel
theorem d_LW_law_215 : decode code 215 = .ok (.iconst 0, 1) := by decide +kernel
theorem d_LW_law_216 : decode code 216 = .ok (.ireturn, 1) := by decide +kernel
theorem d_LW_law_217 : decode code 217 = .ok (.goto 636, 3) := by decide +kernel
theorem d_LW_law_220 : decode code 220 = .ok (.aload_n 1, 1) := by decide +kernel
theorem d_LW_law_221 : decode code 221 = .ok (.aload_n 0, 1) := by decide +kernel
theorem d_LW_law_222 : decode code 222 = .ok (.iload 4, 2) := by decide +kernel
theorem d_LW_law_224 : decode code 224 = .ok (.iconst 1, 1) := by decide +kernel
theorem d_LW_law_225 : decode code 225 = .ok (.iadd, 1) := by decide +kernel
theorem d_LW_law_226 : decode code 226 = .ok (.iaload, 1) := by decide +kernel
theorem d_LW_law_227 : decode code 227 = .ok (.aload_n 0, 1) := by decide +kernel
theorem d_LW_law_228 : decode code 228 = .ok (.iload 4, 2) := by decide +kernel
theorem d_LW_law_230 : decode code 230 = .ok (.iconst 2, 1) := by decide +kernel
theorem d_LW_law_231 : decode code 231 = .ok (.iadd, 1) := by decide +kernel
theorem d_LW_law_232 : decode code 232 = .ok (.iaload, 1) := by decide +kernel
theorem d_LW_law_233 : decode code 233 = .ok (.aload_n 0, 1) := by decide +kernel
theorem d_LW_law_234 : decode code 234 = .ok (.iload 4, 2) := by decide +kernel
theorem d_LW_law_236 : decode code 236 = .ok (.iconst 3, 1) := by decide +kernel
theorem d_LW_law_237 : decode code 237 = .ok (.iadd, 1) := by decide +kernel
theorem d_LW_law_238 : decode code 238 = .ok (.iaload, 1) := by decide +kernel
theorem d_LW_law_239 : decode code 239 = .ok (.aload_n 0, 1) := by decide +kernel
theorem d_LW_law_240 : decode code 240 = .ok (.iload 4, 2) := by decide +kernel
theorem d_LW_law_242 : decode code 242 = .ok (.iconst 4, 1) := by decide +kernel
theorem d_LW_law_243 : decode code 243 = .ok (.iadd, 1) := by decide +kernel
theorem d_LW_law_244 : decode code 244 = .ok (.iaload, 1) := by decide +kernel
theorem d_LW_law_245 : decode code 245 = .ok (.ifCond .eq 7, 3) := by decide +kernel
theorem d_LW_law_248 : decode code 248 = .ok (.iconst 1, 1) := by decide +kernel
theorem d_LW_law_249 : decode code 249 = .ok (.goto 4, 3) := by decide +kernel
theorem d_LW_law_252 : decode code 252 = .ok (.iconst 0, 1) := by decide +kernel
theorem d_LW_law_253 : decode code 253 = .ok (.aload_n 3, 1) := by decide +kernel
end
section
theorem d_LW_law_254 : decode code 254 = .ok (.invokestatic 68, 3) := by decide +kernel
theorem d_LW_law_257 : decode code 257 = .ok (.istore 5, 2) := by decide +kernel
theorem d_LW_law_259 : decode code 259 = .ok (.aload_n 2, 1) := by decide +kernel
theorem d_LW_law_260 : decode code 260 = .ok (.aload_n 0, 1) := by decide +kernel
theorem d_LW_law_261 : decode code 261 = .ok (.iload 4, 2) := by decide +kernel
theorem d_LW_law_263 : decode code 263 = .ok (.iconst 1, 1) := by decide +kernel
theorem d_LW_law_264 : decode code 264 = .ok (.iadd, 1) := by decide +kernel
theorem d_LW_law_265 : decode code 265 = .ok (.iaload, 1) := by decide +kernel
theorem d_LW_law_266 : decode code 266 = .ok (.aload_n 0, 1) := by decide +kernel
theorem d_LW_law_267 : decode code 267 = .ok (.iload 4, 2) := by decide +kernel
theorem d_LW_law_269 : decode code 269 = .ok (.iconst 2, 1) := by decide +kernel
theorem d_LW_law_270 : decode code 270 = .ok (.iadd, 1) := by decide +kernel
theorem d_LW_law_271 : decode code 271 = .ok (.iaload, 1) := by decide +kernel
theorem d_LW_law_272 : decode code 272 = .ok (.aload_n 0, 1) := by decide +kernel
theorem d_LW_law_273 : decode code 273 = .ok (.iload 4, 2) := by decide +kernel
theorem d_LW_law_275 : decode code 275 = .ok (.iconst 3, 1) := by decide +kernel
theorem d_LW_law_276 : decode code 276 = .ok (.iadd, 1) := by decide +kernel
theorem d_LW_law_277 : decode code 277 = .ok (.iaload, 1) := by decide +kernel
theorem d_LW_law_278 : decode code 278 = .ok (.aload_n 0, 1) := by decide +kernel
theorem d_LW_law_279 : decode code 279 = .ok (.iload 4, 2) := by decide +kernel
theorem d_LW_law_281 : decode code 281 = .ok (.iconst 4, 1) := by decide +kernel
theorem d_LW_law_282 : decode code 282 = .ok (.iadd, 1) := by decide +kernel
theorem d_LW_law_283 : decode code 283 = .ok (.iaload, 1) := by decide +kernel
theorem d_LW_law_284 : decode code 284 = .ok (.ifCond .eq 7, 3) := by decide +kernel
theorem d_LW_law_287 : decode code 287 = .ok (.iconst 1, 1) := by decide +kernel
theorem d_LW_law_288 : decode code 288 = .ok (.goto 4, 3) := by decide +kernel
theorem d_LW_law_291 : decode code 291 = .ok (.iconst 0, 1) := by decide +kernel
theorem d_LW_law_292 : decode code 292 = .ok (.invokevirtual 71, 3) := by decide +kernel
theorem d_LW_law_295 : decode code 295 = .ok (.istore 6, 2) := by decide +kernel
theorem d_LW_law_297 : decode code 297 = .ok (.aload_n 2, 1) := by decide +kernel
theorem d_LW_law_298 : decode code 298 = .ok (.invokevirtual 64, 3) := by decide +kernel
theorem d_LW_law_301 : decode code 301 = .ok (.iload 5, 2) := by decide +kernel
theorem d_LW_law_303 : decode code 303 = .ok (.if_icmp .eq 5, 3) := by decide +kernel
theorem d_LW_law_306 : decode code 306 = .ok (.iconst 0, 1) := by decide +kernel
theorem d_LW_law_307 : decode code 307 = .ok (.ireturn, 1) := by decide +kernel
theorem d_LW_law_308 : decode code 308 = .ok (.iload 5, 2) := by decide +kernel
theorem d_LW_law_310 : decode code 310 = .ok (.ifCond .ne 15, 3) := by decide +kernel
theorem d_LW_law_313 : decode code 313 = .ok (.aload_n 3, 1) := by decide +kernel
theorem d_LW_law_314 : decode code 314 = .ok (.iconst 0, 1) := by decide +kernel
theorem d_LW_law_315 : decode code 315 = .ok (.laload, 1) := by decide +kernel
theorem d_LW_law_316 : decode code 316 = .ok (.iload 6, 2) := by decide +kernel
theorem d_LW_law_318 : decode code 318 = .ok (.i2l, 1) := by decide +kernel
theorem d_LW_law_319 : decode code 319 = .ok (.lcmp, 1) := by decide +kernel
theorem d_LW_law_320 : decode code 320 = .ok (.ifCond .eq 5, 3) := by decide +kernel
theorem d_LW_law_323 : decode code 323 = .ok (.iconst 0, 1) := by decide +kernel
theorem d_LW_law_324 : decode code 324 = .ok (.ireturn, 1) := by decide +kernel
theorem d_LW_law_325 : decode code 325 = .ok (.goto 528, 3) := by decide +kernel
theorem d_LW_law_328 : decode code 328 = .ok (.aload_n 1, 1) := by decide +kernel
theorem d_LW_law_329 : decode code 329 = .ok (.aload_n 0, 1) := by decide +kernel
theorem d_LW_law_330 : decode code 330 = .ok (.iload 4, 2) := by decide +kernel
theorem d_LW_law_332 : decode code 332 = .ok (.iconst 1, 1) := by decide +kernel
theorem d_LW_law_333 : decode code 333 = .ok (.iadd, 1) := by decide +kernel
theorem d_LW_law_334 : decode code 334 = .ok (.iaload, 1) := by decide +kernel
theorem d_LW_law_335 : decode code 335 = .ok (.aload_n 0, 1) := by decide +kernel
theorem d_LW_law_336 : decode code 336 = .ok (.iload 4, 2) := by decide +kernel
theorem d_LW_law_338 : decode code 338 = .ok (.iconst 2, 1) := by decide +kernel
theorem d_LW_law_339 : decode code 339 = .ok (.iadd, 1) := by decide +kernel
theorem d_LW_law_340 : decode code 340 = .ok (.iaload, 1) := by decide +kernel
theorem d_LW_law_341 : decode code 341 = .ok (.aload_n 3, 1) := by decide +kernel
theorem d_LW_law_342 : decode code 342 = .ok (.invokestatic 72, 3) := by decide +kernel
theorem d_LW_law_345 : decode code 345 = .ok (.istore 5, 2) := by decide +kernel
theorem d_LW_law_347 : decode code 347 = .ok (.aload_n 2, 1) := by decide +kernel
theorem d_LW_law_348 : decode code 348 = .ok (.aload_n 0, 1) := by decide +kernel
theorem d_LW_law_349 : decode code 349 = .ok (.iload 4, 2) := by decide +kernel
theorem d_LW_law_351 : decode code 351 = .ok (.iconst 1, 1) := by decide +kernel
theorem d_LW_law_352 : decode code 352 = .ok (.iadd, 1) := by decide +kernel
theorem d_LW_law_353 : decode code 353 = .ok (.iaload, 1) := by decide +kernel
theorem d_LW_law_354 : decode code 354 = .ok (.aload_n 0, 1) := by decide +kernel
theorem d_LW_law_355 : decode code 355 = .ok (.iload 4, 2) := by decide +kernel
theorem d_LW_law_357 : decode code 357 = .ok (.iconst 2, 1) := by decide +kernel
theorem d_LW_law_358 : decode code 358 = .ok (.iadd, 1) := by decide +kernel
theorem d_LW_law_359 : decode code 359 = .ok (.iaload, 1) := by decide +kernel
theorem d_LW_law_360 : decode code 360 = .ok (.invokevirtual 75, 3) := by decide +kernel
theorem d_LW_law_363 : decode code 363 = .ok (.istore 6, 2) := by decide +kernel
theorem d_LW_law_365 : decode code 365 = .ok (.aload_n 2, 1) := by decide +kernel
theorem d_LW_law_366 : decode code 366 = .ok (.invokevirtual 64, 3) := by decide +kernel
theorem d_LW_law_369 : decode code 369 = .ok (.iload 5, 2) := by decide +kernel
theorem d_LW_law_371 : decode code 371 = .ok (.if_icmp .eq 5, 3) := by decide +kernel
theorem d_LW_law_374 : decode code 374 = .ok (.iconst 0, 1) := by decide +kernel
theorem d_LW_law_375 : decode code 375 = .ok (.ireturn, 1) := by decide +kernel
theorem d_LW_law_376 : decode code 376 = .ok (.iload 5, 2) := by decide +kernel
theorem d_LW_law_378 : decode code 378 = .ok (.ifCond .ne 15, 3) := by decide +kernel
theorem d_LW_law_381 : decode code 381 = .ok (.aload_n 3, 1) := by decide +kernel
theorem d_LW_law_382 : decode code 382 = .ok (.iconst 0, 1) := by decide +kernel
theorem d_LW_law_383 : decode code 383 = .ok (.laload, 1) := by decide +kernel
theorem d_LW_law_384 : decode code 384 = .ok (.iload 6, 2) := by decide +kernel
theorem d_LW_law_386 : decode code 386 = .ok (.i2l, 1) := by decide +kernel
theorem d_LW_law_387 : decode code 387 = .ok (.lcmp, 1) := by decide +kernel
theorem d_LW_law_388 : decode code 388 = .ok (.ifCond .eq 5, 3) := by decide +kernel
theorem d_LW_law_391 : decode code 391 = .ok (.iconst 0, 1) := by decide +kernel
theorem d_LW_law_392 : decode code 392 = .ok (.ireturn, 1) := by decide +kernel
theorem d_LW_law_393 : decode code 393 = .ok (.goto 460, 3) := by decide +kernel
theorem d_LW_law_396 : decode code 396 = .ok (.aload_n 1, 1) := by decide +kernel
theorem d_LW_law_397 : decode code 397 = .ok (.aload_n 0, 1) := by decide +kernel
theorem d_LW_law_398 : decode code 398 = .ok (.iload 4, 2) := by decide +kernel
theorem d_LW_law_400 : decode code 400 = .ok (.iconst 1, 1) := by decide +kernel
theorem d_LW_law_401 : decode code 401 = .ok (.iadd, 1) := by decide +kernel
theorem d_LW_law_402 : decode code 402 = .ok (.iaload, 1) := by decide +kernel
theorem d_LW_law_403 : decode code 403 = .ok (.aload_n 0, 1) := by decide +kernel
theorem d_LW_law_404 : decode code 404 = .ok (.iload 4, 2) := by decide +kernel
theorem d_LW_law_406 : decode code 406 = .ok (.iconst 2, 1) := by decide +kernel
theorem d_LW_law_407 : decode code 407 = .ok (.iadd, 1) := by decide +kernel
theorem d_LW_law_408 : decode code 408 = .ok (.iaload, 1) := by decide +kernel
theorem d_LW_law_409 : decode code 409 = .ok (.aload_n 0, 1) := by decide +kernel
theorem d_LW_law_410 : decode code 410 = .ok (.iload 4, 2) := by decide +kernel
theorem d_LW_law_412 : decode code 412 = .ok (.iconst 3, 1) := by decide +kernel
theorem d_LW_law_413 : decode code 413 = .ok (.iadd, 1) := by decide +kernel
theorem d_LW_law_414 : decode code 414 = .ok (.iaload, 1) := by decide +kernel
theorem d_LW_law_415 : decode code 415 = .ok (.aload_n 0, 1) := by decide +kernel
theorem d_LW_law_416 : decode code 416 = .ok (.iload 4, 2) := by decide +kernel
theorem d_LW_law_418 : decode code 418 = .ok (.iconst 4, 1) := by decide +kernel
theorem d_LW_law_419 : decode code 419 = .ok (.iadd, 1) := by decide +kernel
theorem d_LW_law_420 : decode code 420 = .ok (.iaload, 1) := by decide +kernel
theorem d_LW_law_421 : decode code 421 = .ok (.aload_n 3, 1) := by decide +kernel
theorem d_LW_law_422 : decode code 422 = .ok (.invokestatic 76, 3) := by decide +kernel
theorem d_LW_law_425 : decode code 425 = .ok (.istore 5, 2) := by decide +kernel
theorem d_LW_law_427 : decode code 427 = .ok (.aload_n 2, 1) := by decide +kernel
theorem d_LW_law_428 : decode code 428 = .ok (.aload_n 0, 1) := by decide +kernel
theorem d_LW_law_429 : decode code 429 = .ok (.iload 4, 2) := by decide +kernel
theorem d_LW_law_431 : decode code 431 = .ok (.iconst 1, 1) := by decide +kernel
theorem d_LW_law_432 : decode code 432 = .ok (.iadd, 1) := by decide +kernel
theorem d_LW_law_433 : decode code 433 = .ok (.iaload, 1) := by decide +kernel
theorem d_LW_law_434 : decode code 434 = .ok (.aload_n 0, 1) := by decide +kernel
theorem d_LW_law_435 : decode code 435 = .ok (.iload 4, 2) := by decide +kernel
theorem d_LW_law_437 : decode code 437 = .ok (.iconst 2, 1) := by decide +kernel
theorem d_LW_law_438 : decode code 438 = .ok (.iadd, 1) := by decide +kernel
theorem d_LW_law_439 : decode code 439 = .ok (.iaload, 1) := by decide +kernel
theorem d_LW_law_440 : decode code 440 = .ok (.aload_n 0, 1) := by decide +kernel
theorem d_LW_law_441 : decode code 441 = .ok (.iload 4, 2) := by decide +kernel
theorem d_LW_law_443 : decode code 443 = .ok (.iconst 3, 1) := by decide +kernel
theorem d_LW_law_444 : decode code 444 = .ok (.iadd, 1) := by decide +kernel
theorem d_LW_law_445 : decode code 445 = .ok (.iaload, 1) := by decide +kernel
theorem d_LW_law_446 : decode code 446 = .ok (.aload_n 0, 1) := by decide +kernel
theorem d_LW_law_447 : decode code 447 = .ok (.iload 4, 2) := by decide +kernel
end
section
theorem d_LW_law_449 : decode code 449 = .ok (.iconst 4, 1) := by decide +kernel
theorem d_LW_law_450 : decode code 450 = .ok (.iadd, 1) := by decide +kernel
theorem d_LW_law_451 : decode code 451 = .ok (.iaload, 1) := by decide +kernel
theorem d_LW_law_452 : decode code 452 = .ok (.invokevirtual 78, 3) := by decide +kernel
theorem d_LW_law_455 : decode code 455 = .ok (.istore 6, 2) := by decide +kernel
theorem d_LW_law_457 : decode code 457 = .ok (.aload_n 2, 1) := by decide +kernel
theorem d_LW_law_458 : decode code 458 = .ok (.invokevirtual 64, 3) := by decide +kernel
theorem d_LW_law_461 : decode code 461 = .ok (.iload 5, 2) := by decide +kernel
theorem d_LW_law_463 : decode code 463 = .ok (.if_icmp .eq 5, 3) := by decide +kernel
theorem d_LW_law_466 : decode code 466 = .ok (.iconst 0, 1) := by decide +kernel
theorem d_LW_law_467 : decode code 467 = .ok (.ireturn, 1) := by decide +kernel
theorem d_LW_law_468 : decode code 468 = .ok (.iload 5, 2) := by decide +kernel
theorem d_LW_law_470 : decode code 470 = .ok (.ifCond .ne 15, 3) := by decide +kernel
theorem d_LW_law_473 : decode code 473 = .ok (.aload_n 3, 1) := by decide +kernel
theorem d_LW_law_474 : decode code 474 = .ok (.iconst 0, 1) := by decide +kernel
theorem d_LW_law_475 : decode code 475 = .ok (.laload, 1) := by decide +kernel
theorem d_LW_law_476 : decode code 476 = .ok (.iload 6, 2) := by decide +kernel
theorem d_LW_law_478 : decode code 478 = .ok (.i2l, 1) := by decide +kernel
theorem d_LW_law_479 : decode code 479 = .ok (.lcmp, 1) := by decide +kernel
theorem d_LW_law_480 : decode code 480 = .ok (.ifCond .eq 5, 3) := by decide +kernel
theorem d_LW_law_483 : decode code 483 = .ok (.iconst 0, 1) := by decide +kernel
theorem d_LW_law_484 : decode code 484 = .ok (.ireturn, 1) := by decide +kernel
theorem d_LW_law_485 : decode code 485 = .ok (.goto 368, 3) := by decide +kernel
theorem d_LW_law_488 : decode code 488 = .ok (.aload_n 1, 1) := by decide +kernel
theorem d_LW_law_489 : decode code 489 = .ok (.invokevirtual 79, 3) := by decide +kernel
theorem d_LW_law_492 : decode code 492 = .ok (.aload_n 2, 1) := by decide +kernel
theorem d_LW_law_493 : decode code 493 = .ok (.invokevirtual 82, 3) := by decide +kernel
theorem d_LW_law_496 : decode code 496 = .ok (.if_icmp .eq 357, 3) := by decide +kernel
theorem d_LW_law_499 : decode code 499 = .ok (.iconst 0, 1) := by decide +kernel
theorem d_LW_law_500 : decode code 500 = .ok (.ireturn, 1) := by decide +kernel
theorem d_LW_law_501 : decode code 501 = .ok (.aload_n 1, 1) := by decide +kernel
theorem d_LW_law_502 : decode code 502 = .ok (.aload_n 0, 1) := by decide +kernel
theorem d_LW_law_503 : decode code 503 = .ok (.iload 4, 2) := by decide +kernel
theorem d_LW_law_505 : decode code 505 = .ok (.iconst 1, 1) := by decide +kernel
theorem d_LW_law_506 : decode code 506 = .ok (.iadd, 1) := by decide +kernel
theorem d_LW_law_507 : decode code 507 = .ok (.iaload, 1) := by decide +kernel
theorem d_LW_law_508 : decode code 508 = .ok (.aload_n 0, 1) := by decide +kernel
theorem d_LW_law_509 : decode code 509 = .ok (.iload 4, 2) := by decide +kernel
theorem d_LW_law_511 : decode code 511 = .ok (.iconst 2, 1) := by decide +kernel
theorem d_LW_law_512 : decode code 512 = .ok (.iadd, 1) := by decide +kernel
theorem d_LW_law_513 : decode code 513 = .ok (.iaload, 1) := by decide +kernel
theorem d_LW_law_514 : decode code 514 = .ok (.aload_n 3, 1) := by decide +kernel
theorem d_LW_law_515 : decode code 515 = .ok (.invokestatic 83, 3) := by decide +kernel
theorem d_LW_law_518 : decode code 518 = .ok (.istore 5, 2) := by decide +kernel
theorem d_LW_law_520 : decode code 520 = .ok (.aload_n 2, 1) := by decide +kernel
theorem d_LW_law_521 : decode code 521 = .ok (.aload_n 0, 1) := by decide +kernel
theorem d_LW_law_522 : decode code 522 = .ok (.iload 4, 2) := by decide +kernel
theorem d_LW_law_524 : decode code 524 = .ok (.iconst 1, 1) := by decide +kernel
theorem d_LW_law_525 : decode code 525 = .ok (.iadd, 1) := by decide +kernel
theorem d_LW_law_526 : decode code 526 = .ok (.iaload, 1) := by decide +kernel
theorem d_LW_law_527 : decode code 527 = .ok (.aload_n 0, 1) := by decide +kernel
theorem d_LW_law_528 : decode code 528 = .ok (.iload 4, 2) := by decide +kernel
theorem d_LW_law_530 : decode code 530 = .ok (.iconst 2, 1) := by decide +kernel
theorem d_LW_law_531 : decode code 531 = .ok (.iadd, 1) := by decide +kernel
theorem d_LW_law_532 : decode code 532 = .ok (.iaload, 1) := by decide +kernel
theorem d_LW_law_533 : decode code 533 = .ok (.invokevirtual 85, 3) := by decide +kernel
theorem d_LW_law_536 : decode code 536 = .ok (.istore 6, 2) := by decide +kernel
theorem d_LW_law_538 : decode code 538 = .ok (.aload_n 2, 1) := by decide +kernel
theorem d_LW_law_539 : decode code 539 = .ok (.invokevirtual 64, 3) := by decide +kernel
theorem d_LW_law_542 : decode code 542 = .ok (.iload 5, 2) := by decide +kernel
theorem d_LW_law_544 : decode code 544 = .ok (.if_icmp .eq 5, 3) := by decide +kernel
theorem d_LW_law_547 : decode code 547 = .ok (.iconst 0, 1) := by decide +kernel
theorem d_LW_law_548 : decode code 548 = .ok (.ireturn, 1) := by decide +kernel
theorem d_LW_law_549 : decode code 549 = .ok (.iload 5, 2) := by decide +kernel
theorem d_LW_law_551 : decode code 551 = .ok (.ifCond .ne 15, 3) := by decide +kernel
theorem d_LW_law_554 : decode code 554 = .ok (.aload_n 3, 1) := by decide +kernel
theorem d_LW_law_555 : decode code 555 = .ok (.iconst 0, 1) := by decide +kernel
theorem d_LW_law_556 : decode code 556 = .ok (.laload, 1) := by decide +kernel
theorem d_LW_law_557 : decode code 557 = .ok (.iload 6, 2) := by decide +kernel
theorem d_LW_law_559 : decode code 559 = .ok (.i2l, 1) := by decide +kernel
theorem d_LW_law_560 : decode code 560 = .ok (.lcmp, 1) := by decide +kernel
theorem d_LW_law_561 : decode code 561 = .ok (.ifCond .eq 5, 3) := by decide +kernel
theorem d_LW_law_564 : decode code 564 = .ok (.iconst 0, 1) := by decide +kernel
theorem d_LW_law_565 : decode code 565 = .ok (.ireturn, 1) := by decide +kernel
theorem d_LW_law_566 : decode code 566 = .ok (.goto 287, 3) := by decide +kernel
theorem d_LW_law_569 : decode code 569 = .ok (.aload_n 1, 1) := by decide +kernel
theorem d_LW_law_570 : decode code 570 = .ok (.aload_n 0, 1) := by decide +kernel
theorem d_LW_law_571 : decode code 571 = .ok (.iload 4, 2) := by decide +kernel
theorem d_LW_law_573 : decode code 573 = .ok (.iconst 1, 1) := by decide +kernel
theorem d_LW_law_574 : decode code 574 = .ok (.iadd, 1) := by decide +kernel
theorem d_LW_law_575 : decode code 575 = .ok (.iaload, 1) := by decide +kernel
theorem d_LW_law_576 : decode code 576 = .ok (.aload_n 0, 1) := by decide +kernel
theorem d_LW_law_577 : decode code 577 = .ok (.iload 4, 2) := by decide +kernel
theorem d_LW_law_579 : decode code 579 = .ok (.iconst 2, 1) := by decide +kernel
theorem d_LW_law_580 : decode code 580 = .ok (.iadd, 1) := by decide +kernel
theorem d_LW_law_581 : decode code 581 = .ok (.iaload, 1) := by decide +kernel
theorem d_LW_law_582 : decode code 582 = .ok (.aload_n 0, 1) := by decide +kernel
theorem d_LW_law_583 : decode code 583 = .ok (.iload 4, 2) := by decide +kernel
theorem d_LW_law_585 : decode code 585 = .ok (.iconst 3, 1) := by decide +kernel
theorem d_LW_law_586 : decode code 586 = .ok (.iadd, 1) := by decide +kernel
theorem d_LW_law_587 : decode code 587 = .ok (.iaload, 1) := by decide +kernel
theorem d_LW_law_588 : decode code 588 = .ok (.aload_n 3, 1) := by decide +kernel
theorem d_LW_law_589 : decode code 589 = .ok (.invokestatic 86, 3) := by decide +kernel
theorem d_LW_law_592 : decode code 592 = .ok (.istore 5, 2) := by decide +kernel
theorem d_LW_law_594 : decode code 594 = .ok (.aload_n 2, 1) := by decide +kernel
theorem d_LW_law_595 : decode code 595 = .ok (.aload_n 0, 1) := by decide +kernel
theorem d_LW_law_596 : decode code 596 = .ok (.iload 4, 2) := by decide +kernel
theorem d_LW_law_598 : decode code 598 = .ok (.iconst 1, 1) := by decide +kernel
theorem d_LW_law_599 : decode code 599 = .ok (.iadd, 1) := by decide +kernel
theorem d_LW_law_600 : decode code 600 = .ok (.iaload, 1) := by decide +kernel
theorem d_LW_law_601 : decode code 601 = .ok (.aload_n 0, 1) := by decide +kernel
theorem d_LW_law_602 : decode code 602 = .ok (.iload 4, 2) := by decide +kernel
theorem d_LW_law_604 : decode code 604 = .ok (.iconst 2, 1) := by decide +kernel
theorem d_LW_law_605 : decode code 605 = .ok (.iadd, 1) := by decide +kernel
theorem d_LW_law_606 : decode code 606 = .ok (.iaload, 1) := by decide +kernel
theorem d_LW_law_607 : decode code 607 = .ok (.aload_n 0, 1) := by decide +kernel
theorem d_LW_law_608 : decode code 608 = .ok (.iload 4, 2) := by decide +kernel
theorem d_LW_law_610 : decode code 610 = .ok (.iconst 3, 1) := by decide +kernel
theorem d_LW_law_611 : decode code 611 = .ok (.iadd, 1) := by decide +kernel
theorem d_LW_law_612 : decode code 612 = .ok (.iaload, 1) := by decide +kernel
theorem d_LW_law_613 : decode code 613 = .ok (.invokevirtual 89, 3) := by decide +kernel
theorem d_LW_law_616 : decode code 616 = .ok (.istore 6, 2) := by decide +kernel
theorem d_LW_law_618 : decode code 618 = .ok (.aload_n 2, 1) := by decide +kernel
theorem d_LW_law_619 : decode code 619 = .ok (.invokevirtual 64, 3) := by decide +kernel
theorem d_LW_law_622 : decode code 622 = .ok (.iload 5, 2) := by decide +kernel
theorem d_LW_law_624 : decode code 624 = .ok (.if_icmp .eq 5, 3) := by decide +kernel
theorem d_LW_law_627 : decode code 627 = .ok (.iconst 0, 1) := by decide +kernel
theorem d_LW_law_628 : decode code 628 = .ok (.ireturn, 1) := by decide +kernel
theorem d_LW_law_629 : decode code 629 = .ok (.iload 5, 2) := by decide +kernel
theorem d_LW_law_631 : decode code 631 = .ok (.ifCond .ne 15, 3) := by decide +kernel
theorem d_LW_law_634 : decode code 634 = .ok (.aload_n 3, 1) := by decide +kernel
theorem d_LW_law_635 : decode code 635 = .ok (.iconst 0, 1) := by decide +kernel
theorem d_LW_law_636 : decode code 636 = .ok (.laload, 1) := by decide +kernel
theorem d_LW_law_637 : decode code 637 = .ok (.iload 6, 2) := by decide +kernel
theorem d_LW_law_639 : decode code 639 = .ok (.i2l, 1) := by decide +kernel
theorem d_LW_law_640 : decode code 640 = .ok (.lcmp, 1) := by decide +kernel
theorem d_LW_law_641 : decode code 641 = .ok (.ifCond .eq 5, 3) := by decide +kernel
theorem d_LW_law_644 : decode code 644 = .ok (.iconst 0, 1) := by decide +kernel
theorem d_LW_law_645 : decode code 645 = .ok (.ireturn, 1) := by decide +kernel
theorem d_LW_law_646 : decode code 646 = .ok (.goto 207, 3) := by decide +kernel
theorem d_LW_law_649 : decode code 649 = .ok (.aload_n 1, 1) := by decide +kernel
theorem d_LW_law_650 : decode code 650 = .ok (.aload_n 0, 1) := by decide +kernel
theorem d_LW_law_651 : decode code 651 = .ok (.iload 4, 2) := by decide +kernel
theorem d_LW_law_653 : decode code 653 = .ok (.iconst 1, 1) := by decide +kernel
end
section
theorem d_LW_law_654 : decode code 654 = .ok (.iadd, 1) := by decide +kernel
theorem d_LW_law_655 : decode code 655 = .ok (.iaload, 1) := by decide +kernel
theorem d_LW_law_656 : decode code 656 = .ok (.aload_n 0, 1) := by decide +kernel
theorem d_LW_law_657 : decode code 657 = .ok (.iload 4, 2) := by decide +kernel
theorem d_LW_law_659 : decode code 659 = .ok (.iconst 2, 1) := by decide +kernel
theorem d_LW_law_660 : decode code 660 = .ok (.iadd, 1) := by decide +kernel
theorem d_LW_law_661 : decode code 661 = .ok (.iaload, 1) := by decide +kernel
theorem d_LW_law_662 : decode code 662 = .ok (.aload_n 0, 1) := by decide +kernel
theorem d_LW_law_663 : decode code 663 = .ok (.iload 4, 2) := by decide +kernel
theorem d_LW_law_665 : decode code 665 = .ok (.iconst 3, 1) := by decide +kernel
theorem d_LW_law_666 : decode code 666 = .ok (.iadd, 1) := by decide +kernel
theorem d_LW_law_667 : decode code 667 = .ok (.iaload, 1) := by decide +kernel
theorem d_LW_law_668 : decode code 668 = .ok (.aload_n 3, 1) := by decide +kernel
theorem d_LW_law_669 : decode code 669 = .ok (.invokestatic 90, 3) := by decide +kernel
theorem d_LW_law_672 : decode code 672 = .ok (.istore 5, 2) := by decide +kernel
theorem d_LW_law_674 : decode code 674 = .ok (.aload_n 2, 1) := by decide +kernel
theorem d_LW_law_675 : decode code 675 = .ok (.aload_n 0, 1) := by decide +kernel
theorem d_LW_law_676 : decode code 676 = .ok (.iload 4, 2) := by decide +kernel
theorem d_LW_law_678 : decode code 678 = .ok (.iconst 1, 1) := by decide +kernel
theorem d_LW_law_679 : decode code 679 = .ok (.iadd, 1) := by decide +kernel
theorem d_LW_law_680 : decode code 680 = .ok (.iaload, 1) := by decide +kernel
theorem d_LW_law_681 : decode code 681 = .ok (.aload_n 0, 1) := by decide +kernel
theorem d_LW_law_682 : decode code 682 = .ok (.iload 4, 2) := by decide +kernel
theorem d_LW_law_684 : decode code 684 = .ok (.iconst 2, 1) := by decide +kernel
theorem d_LW_law_685 : decode code 685 = .ok (.iadd, 1) := by decide +kernel
theorem d_LW_law_686 : decode code 686 = .ok (.iaload, 1) := by decide +kernel
theorem d_LW_law_687 : decode code 687 = .ok (.aload_n 0, 1) := by decide +kernel
theorem d_LW_law_688 : decode code 688 = .ok (.iload 4, 2) := by decide +kernel
theorem d_LW_law_690 : decode code 690 = .ok (.iconst 3, 1) := by decide +kernel
theorem d_LW_law_691 : decode code 691 = .ok (.iadd, 1) := by decide +kernel
theorem d_LW_law_692 : decode code 692 = .ok (.iaload, 1) := by decide +kernel
theorem d_LW_law_693 : decode code 693 = .ok (.invokevirtual 92, 3) := by decide +kernel
theorem d_LW_law_696 : decode code 696 = .ok (.istore 6, 2) := by decide +kernel
theorem d_LW_law_698 : decode code 698 = .ok (.aload_n 2, 1) := by decide +kernel
theorem d_LW_law_699 : decode code 699 = .ok (.invokevirtual 64, 3) := by decide +kernel
theorem d_LW_law_702 : decode code 702 = .ok (.iload 5, 2) := by decide +kernel
theorem d_LW_law_704 : decode code 704 = .ok (.if_icmp .eq 5, 3) := by decide +kernel
theorem d_LW_law_707 : decode code 707 = .ok (.iconst 0, 1) := by decide +kernel
theorem d_LW_law_708 : decode code 708 = .ok (.ireturn, 1) := by decide +kernel
theorem d_LW_law_709 : decode code 709 = .ok (.iload 5, 2) := by decide +kernel
theorem d_LW_law_711 : decode code 711 = .ok (.ifCond .ne 15, 3) := by decide +kernel
theorem d_LW_law_714 : decode code 714 = .ok (.aload_n 3, 1) := by decide +kernel
theorem d_LW_law_715 : decode code 715 = .ok (.iconst 0, 1) := by decide +kernel
theorem d_LW_law_716 : decode code 716 = .ok (.laload, 1) := by decide +kernel
theorem d_LW_law_717 : decode code 717 = .ok (.iload 6, 2) := by decide +kernel
theorem d_LW_law_719 : decode code 719 = .ok (.i2l, 1) := by decide +kernel
theorem d_LW_law_720 : decode code 720 = .ok (.lcmp, 1) := by decide +kernel
theorem d_LW_law_721 : decode code 721 = .ok (.ifCond .eq 5, 3) := by decide +kernel
theorem d_LW_law_724 : decode code 724 = .ok (.iconst 0, 1) := by decide +kernel
theorem d_LW_law_725 : decode code 725 = .ok (.ireturn, 1) := by decide +kernel
theorem d_LW_law_726 : decode code 726 = .ok (.goto 127, 3) := by decide +kernel
theorem d_LW_law_729 : decode code 729 = .ok (.aload_n 1, 1) := by decide +kernel
theorem d_LW_law_730 : decode code 730 = .ok (.aload_n 0, 1) := by decide +kernel
theorem d_LW_law_731 : decode code 731 = .ok (.iload 4, 2) := by decide +kernel
theorem d_LW_law_733 : decode code 733 = .ok (.iconst 1, 1) := by decide +kernel
theorem d_LW_law_734 : decode code 734 = .ok (.iadd, 1) := by decide +kernel
theorem d_LW_law_735 : decode code 735 = .ok (.iaload, 1) := by decide +kernel
theorem d_LW_law_736 : decode code 736 = .ok (.aload_n 3, 1) := by decide +kernel
theorem d_LW_law_737 : decode code 737 = .ok (.invokestatic 93, 3) := by decide +kernel
theorem d_LW_law_740 : decode code 740 = .ok (.istore 5, 2) := by decide +kernel
theorem d_LW_law_742 : decode code 742 = .ok (.aload_n 2, 1) := by decide +kernel
theorem d_LW_law_743 : decode code 743 = .ok (.aload_n 0, 1) := by decide +kernel
theorem d_LW_law_744 : decode code 744 = .ok (.iload 4, 2) := by decide +kernel
theorem d_LW_law_746 : decode code 746 = .ok (.iconst 1, 1) := by decide +kernel
theorem d_LW_law_747 : decode code 747 = .ok (.iadd, 1) := by decide +kernel
theorem d_LW_law_748 : decode code 748 = .ok (.iaload, 1) := by decide +kernel
theorem d_LW_law_749 : decode code 749 = .ok (.invokevirtual 96, 3) := by decide +kernel
theorem d_LW_law_752 : decode code 752 = .ok (.istore 6, 2) := by decide +kernel
theorem d_LW_law_754 : decode code 754 = .ok (.aload_n 2, 1) := by decide +kernel
theorem d_LW_law_755 : decode code 755 = .ok (.invokevirtual 64, 3) := by decide +kernel
theorem d_LW_law_758 : decode code 758 = .ok (.iload 5, 2) := by decide +kernel
theorem d_LW_law_760 : decode code 760 = .ok (.if_icmp .eq 5, 3) := by decide +kernel
theorem d_LW_law_763 : decode code 763 = .ok (.iconst 0, 1) := by decide +kernel
theorem d_LW_law_764 : decode code 764 = .ok (.ireturn, 1) := by decide +kernel
theorem d_LW_law_765 : decode code 765 = .ok (.iload 5, 2) := by decide +kernel
theorem d_LW_law_767 : decode code 767 = .ok (.ifCond .ne 15, 3) := by decide +kernel
theorem d_LW_law_770 : decode code 770 = .ok (.aload_n 3, 1) := by decide +kernel
theorem d_LW_law_771 : decode code 771 = .ok (.iconst 0, 1) := by decide +kernel
theorem d_LW_law_772 : decode code 772 = .ok (.laload, 1) := by decide +kernel
theorem d_LW_law_773 : decode code 773 = .ok (.iload 6, 2) := by decide +kernel
theorem d_LW_law_775 : decode code 775 = .ok (.i2l, 1) := by decide +kernel
theorem d_LW_law_776 : decode code 776 = .ok (.lcmp, 1) := by decide +kernel
theorem d_LW_law_777 : decode code 777 = .ok (.ifCond .eq 5, 3) := by decide +kernel
theorem d_LW_law_780 : decode code 780 = .ok (.iconst 0, 1) := by decide +kernel
theorem d_LW_law_781 : decode code 781 = .ok (.ireturn, 1) := by decide +kernel
theorem d_LW_law_782 : decode code 782 = .ok (.goto 71, 3) := by decide +kernel
theorem d_LW_law_785 : decode code 785 = .ok (.aload_n 1, 1) := by decide +kernel
theorem d_LW_law_786 : decode code 786 = .ok (.aload_n 0, 1) := by decide +kernel
theorem d_LW_law_787 : decode code 787 = .ok (.iload 4, 2) := by decide +kernel
theorem d_LW_law_789 : decode code 789 = .ok (.iconst 1, 1) := by decide +kernel
theorem d_LW_law_790 : decode code 790 = .ok (.iadd, 1) := by decide +kernel
theorem d_LW_law_791 : decode code 791 = .ok (.iaload, 1) := by decide +kernel
theorem d_LW_law_792 : decode code 792 = .ok (.aload_n 3, 1) := by decide +kernel
theorem d_LW_law_793 : decode code 793 = .ok (.invokestatic 97, 3) := by decide +kernel
theorem d_LW_law_796 : decode code 796 = .ok (.istore 5, 2) := by decide +kernel
theorem d_LW_law_798 : decode code 798 = .ok (.aload_n 2, 1) := by decide +kernel
theorem d_LW_law_799 : decode code 799 = .ok (.aload_n 0, 1) := by decide +kernel
theorem d_LW_law_800 : decode code 800 = .ok (.iload 4, 2) := by decide +kernel
theorem d_LW_law_802 : decode code 802 = .ok (.iconst 1, 1) := by decide +kernel
theorem d_LW_law_803 : decode code 803 = .ok (.iadd, 1) := by decide +kernel
theorem d_LW_law_804 : decode code 804 = .ok (.iaload, 1) := by decide +kernel
theorem d_LW_law_805 : decode code 805 = .ok (.invokevirtual 99, 3) := by decide +kernel
theorem d_LW_law_808 : decode code 808 = .ok (.lstore 6, 2) := by decide +kernel
theorem d_LW_law_810 : decode code 810 = .ok (.aload_n 2, 1) := by decide +kernel
theorem d_LW_law_811 : decode code 811 = .ok (.invokevirtual 64, 3) := by decide +kernel
theorem d_LW_law_814 : decode code 814 = .ok (.iload 5, 2) := by decide +kernel
theorem d_LW_law_816 : decode code 816 = .ok (.if_icmp .eq 5, 3) := by decide +kernel
theorem d_LW_law_819 : decode code 819 = .ok (.iconst 0, 1) := by decide +kernel
theorem d_LW_law_820 : decode code 820 = .ok (.ireturn, 1) := by decide +kernel
theorem d_LW_law_821 : decode code 821 = .ok (.iload 5, 2) := by decide +kernel
theorem d_LW_law_823 : decode code 823 = .ok (.ifCond .ne 14, 3) := by decide +kernel
theorem d_LW_law_826 : decode code 826 = .ok (.aload_n 3, 1) := by decide +kernel
theorem d_LW_law_827 : decode code 827 = .ok (.iconst 0, 1) := by decide +kernel
theorem d_LW_law_828 : decode code 828 = .ok (.laload, 1) := by decide +kernel
theorem d_LW_law_829 : decode code 829 = .ok (.lload 6, 2) := by decide +kernel
theorem d_LW_law_831 : decode code 831 = .ok (.lcmp, 1) := by decide +kernel
theorem d_LW_law_832 : decode code 832 = .ok (.ifCond .eq 5, 3) := by decide +kernel
theorem d_LW_law_835 : decode code 835 = .ok (.iconst 0, 1) := by decide +kernel
theorem d_LW_law_836 : decode code 836 = .ok (.ireturn, 1) := by decide +kernel
theorem d_LW_law_837 : decode code 837 = .ok (.goto 16, 3) := by decide +kernel
theorem d_LW_law_840 : decode code 840 = .ok (.aload_n 1, 1) := by decide +kernel
theorem d_LW_law_841 : decode code 841 = .ok (.invokevirtual 100, 3) := by decide +kernel
theorem d_LW_law_844 : decode code 844 = .ok (.aload_n 2, 1) := by decide +kernel
theorem d_LW_law_845 : decode code 845 = .ok (.invokevirtual 103, 3) := by decide +kernel
theorem d_LW_law_848 : decode code 848 = .ok (.if_icmp .eq 5, 3) := by decide +kernel
theorem d_LW_law_851 : decode code 851 = .ok (.iconst 0, 1) := by decide +kernel
theorem d_LW_law_852 : decode code 852 = .ok (.ireturn, 1) := by decide +kernel
theorem d_LW_law_853 : decode code 853 = .ok (.iinc 4 5, 3) := by decide +kernel
theorem d_LW_law_856 : decode code 856 = .ok (.goto (-803), 3) := by decide +kernel
theorem d_LW_law_859 : decode code 859 = .ok (.iconst 1, 1) := by decide +kernel
theorem d_LW_law_860 : decode code 860 = .ok (.ireturn, 1) := by decide +kernel
end
section
/-! Ints by their values: iI z is the Java int of value z (mod 2^32). -/
def iI (z : Int) : Int32 := Int32.ofInt z
theorem iI_add (a b : Int) : iI a + iI b = iI (a + b) := (Int32.ofInt_add a b).symm
theorem iI_sub (a b : Int) : iI a - iI b = iI (a - b) := (Int32.ofInt_sub a b).symm
theorem iI_mul (a b : Int) : iI a * iI b = iI (a * b) := (Int32.ofInt_mul a b).symm
theorem iI_neg (a : Int) : -iI a = iI (-a) := (Int32.ofInt_neg a).symm
theorem iI_self (x : Int32) : iI x.toInt = x := Int32.ofInt_toInt x
theorem iI_toInt {z : Int} (h1 : -2147483648 ≤ z) (h2 : z < 2147483648) : (iI z).toInt = z := Int32.toInt_ofInt_of_le (by omega) (by omega)
theorem iI_lo (x : Int32) : -2147483648 ≤ x.toInt := by have := Int32.le_toInt x; omega
theorem iI_hi (x : Int32) : x.toInt < 2147483648 := by have := Int32.toInt_lt x; omega
theorem iI_lt {a b : Int} (a1 : -2147483648 ≤ a) (a2 : a < 2147483648) (b1 : -2147483648 ≤ b) (b2 : b < 2147483648) : iI a < iI b ↔ a < b := by
  rw [Int32.lt_iff_toInt_lt, iI_toInt a1 a2, iI_toInt b1 b2]
theorem iI_le {a b : Int} (a1 : -2147483648 ≤ a) (a2 : a < 2147483648) (b1 : -2147483648 ≤ b) (b2 : b < 2147483648) : iI a ≤ iI b ↔ a ≤ b := by
  rw [Int32.le_iff_toInt_le, iI_toInt a1 a2, iI_toInt b1 b2]
theorem iI_eq {a b : Int} (a1 : -2147483648 ≤ a) (a2 : a < 2147483648) (b1 : -2147483648 ≤ b) (b2 : b < 2147483648) : iI a = iI b ↔ a = b := by
  rw [← Int32.toInt_inj, iI_toInt a1 a2, iI_toInt b1 b2]
theorem iI_0 : iI 0 = 0 := by decide +kernel
theorem iI_nat (n : Nat) : iI (n : Int) = nI n := Int32.ofInt_eq_ofNat
theorem iI_cl {z : Int} (h0 : 0 ≤ z) (h2 : z < 2147483648) : (iI z).toNatClampNeg = z.toNat := by
  obtain ⟨n, rfl⟩ := Int.eq_ofNat_of_zero_le h0
  rw [iI_nat, nI_clamp (by omega)]
  rfl
theorem iI_in {z : Int} {N : Nat} (h0 : 0 ≤ z) (h : z < N) (hN : N < 2147483648) : vp_in (iI z) N := by
  obtain ⟨n, rfl⟩ := Int.eq_ofNat_of_zero_le h0
  rw [iI_nat]
  exact vp_in_nI (by omega) (by omega)
theorem iI_tdiv {a b : Int} (a1 : -2147483648 ≤ a) (a2 : a < 2147483648) (b1 : 0 < b) (b2 : b < 2147483648) : iI a / iI b = iI (a.tdiv b) :=
  (Int32.ofInt_tdiv (by rw [show Int32.minValue.toInt = -2147483648 from by decide +kernel]; omega) (by rw [show Int32.maxValue.toInt = 2147483647 from by decide +kernel]; omega) (by rw [show Int32.minValue.toInt = -2147483648 from by decide +kernel]; omega) (by rw [show Int32.maxValue.toInt = 2147483647 from by decide +kernel]; omega)).symm
theorem iI_ne0 {b : Int} (b1 : 0 < b) (b2 : b < 2147483648) : ¬ iI b = 0 := by
  rw [← iI_0, iI_eq (by omega) b2 (by omega) (by omega)]
  omega
end
section
/-- a field's link from the class 'own' (entry idx of its pool) to the field j of the class ci -/
def fl_ok (own : String) (idx ci j : Nat) : Prop := ∃ (C : String) (T : u_T) (N : Nat), classes[ci]? = some (C, T, N) ∧ j < N ∧ (∀ w ∈ u_ws C T N, w ∈ tb_l) ∧ (Cond.fieldLink own idx C (T j).2.1 (T j).2.2.1 ∈ tb_l ∨ ∃ host, Cond.fieldLinkNest own idx C (T j).2.1 (T j).2.2.1 host ∈ tb_l) ∧ (T j).1 = C
def fp_ok (own : String) (idx ci j : Nat) (ty : FieldType) : Prop := ∃ (C : String) (T : u_T) (N : Nat) (t : Nat → FieldType), classes[ci]? = some (C, T, N) ∧ j < N ∧ (∀ w ∈ u_ws C T N, w ∈ tb_l) ∧ (Cond.fieldLink own idx C (T j).2.1 (T j).2.2.1 ∈ tb_l ∨ ∃ host, Cond.fieldLinkNest own idx C (T j).2.1 (T j).2.2.1 host ∈ tb_l) ∧ (T j).1 = C ∧ (T j).2.2.2 = false ∧ (∀ k, k < N → parseFieldDescriptor (T k).2.2.1 = some (t k)) ∧ (∀ a, a < N → ∀ b, b < N → a ≠ b → (T a).2.1 ≠ (T b).2.1) ∧ t j = ty
def fF_ok (own : String) (idx ci j : Nat) (ty : FieldType) : Prop := ∃ (C : String) (T : u_T) (N : Nat) (t : Nat → FieldType), classes[ci]? = some (C, T, N) ∧ j < N ∧ (∀ w ∈ u_ws C T N, w ∈ tb_l) ∧ (Cond.fieldLink own idx C (T j).2.1 (T j).2.2.1 ∈ tb_l) ∧ (T j).1 = C ∧ (T j).2.2.2 = true ∧ (∀ k, k < N → parseFieldDescriptor (T k).2.2.1 = some (t k)) ∧ (∀ a, a < N → ∀ b, b < N → a ≠ b → (T a).2.1 ≠ (T b).2.1) ∧ t j = ty ∧ (T j).1 = own
theorem zz_eq {a : Int} (a1 : -2147483648 ≤ a) (a2 : a < 2147483648) : iI a = 0 ↔ a = 0 := by
  rw [← iI_0, iI_eq a1 a2 (by omega) (by omega)]
theorem zz_lt {a : Int} (a1 : -2147483648 ≤ a) (a2 : a < 2147483648) : iI a < 0 ↔ a < 0 := by
  rw [← iI_0, iI_lt a1 a2 (by omega) (by omega)]
theorem zz_ge {a : Int} (a1 : -2147483648 ≤ a) (a2 : a < 2147483648) : 0 ≤ iI a ↔ 0 ≤ a := by
  rw [← iI_0, iI_le (by omega) (by omega) a1 a2]
theorem zz_gt {a : Int} (a1 : -2147483648 ≤ a) (a2 : a < 2147483648) : 0 < iI a ↔ 0 < a := by
  rw [← iI_0, iI_lt (by omega) (by omega) a1 a2]
theorem zz_le {a : Int} (a1 : -2147483648 ≤ a) (a2 : a < 2147483648) : iI a ≤ 0 ↔ a ≤ 0 := by
  rw [← iI_0, iI_le a1 a2 (by omega) (by omega)]
/-! VV: what a walk of one method has to show at a point: the picture of the cells 'ws', of the locals 'lv', the operand stack 'st', the pc. -/
abbrev cx_T : Type := Program × Launch × Env × State × MethodId × Array Value × List Frame × Method × Code × va_G × (Nat → Prop) × (Nat → Prop)
abbrev cx_p (X : cx_T) : Program := X.1
abbrev cx_l (X : cx_T) : Launch := X.2.1
abbrev cx_e (X : cx_T) : Env := X.2.2.1
abbrev cx_s (X : cx_T) : State := X.2.2.2.1
abbrev cx_m (X : cx_T) : MethodId := X.2.2.2.2.1
abbrev cx_a (X : cx_T) : Array Value := X.2.2.2.2.2.1
abbrev cx_b (X : cx_T) : List Frame := X.2.2.2.2.2.2.1
abbrev cx_M (X : cx_T) : Method := X.2.2.2.2.2.2.2.1
abbrev cx_c (X : cx_T) : Code := X.2.2.2.2.2.2.2.2.1
abbrev cx_D (X : cx_T) : va_G := X.2.2.2.2.2.2.2.2.2.1
abbrev cx_A (X : cx_T) : Nat → Prop := X.2.2.2.2.2.2.2.2.2.2.1
abbrev cx_B (X : cx_T) : Nat → Prop := X.2.2.2.2.2.2.2.2.2.2.2
/-- the picture's cells may be written -/
def cx_w (X : cx_T) : Prop := ∀ q, cx_B X q → cx_A X q
/-- a method's bytes, its number of locals, its class, its room -/
abbrev ms_T : Type := ByteArray × Nat × String × Room
def cx_ok (X : cx_T) (M : ms_T) : Prop := (cx_p X).tables.exec = Jvm.exec ∧ (cx_c X).code = M.1 ∧ (cx_c X).maxLocals = M.2.1 ∧ (cx_s X).vm.findClass M.2.2.1 = some (cx_m X).cls ∧ tb_ok (cx_s X) ∧ (∀ q, (cx_s X).heap.size ≤ q → cx_A X q ∧ cx_B X q) ∧ (cx_M X).locks = false
def lo_has (ls : Array Slot) (nL : Nat) (lv : List (Option Value)) : Prop := ls.size = nL ∧ lv_wf ls ∧ ∀ (i : Nat) (v : Value), lv[i]? = some (some v) → ls[i]? = some (.val v)
def lo_l (lv : List (Option Value)) : List (Nat × Value) := (List.range lv.length).filterMap (fun i => match lv[i]? with | some (some v) => some (i, v) | _ => none)
theorem lo_mem {lv : List (Option Value)} {i : Nat} {v : Value} : (i, v) ∈ lo_l lv ↔ lv[i]? = some (some v) := by
  unfold lo_l
  rw [List.mem_filterMap]
  constructor
  · rintro ⟨j, -, h⟩
    split at h
    · rename_i w hw
      have := Option.some.inj h
      cases this
      exact hw
    · cases h
  · intro h
    refine ⟨i, List.mem_range.mpr (List.getElem?_eq_some_iff.mp h).1, ?_⟩
    rw [h]
theorem lo_to {ls : Array Slot} {nL : Nat} {lv : List (Option Value)} (h : lo_has ls nL lv) : lv_has ls nL (lo_l lv) := ⟨h.1, h.2.1, fun q hq => h.2.2 q.1 q.2 (lo_mem.mp hq)⟩
/-- the place before is no long -/
def lo_ok (lv : List (Option Value)) (i : Nat) : Bool := match i with
  | 0 => true
  | j + 1 => match lv[j]? with
    | some (some v) => v.category == 1
    | _ => true
theorem lo_set {ls' : Array Slot} {nL i : Nat} {v : Value} {lv : List (Option Value)} (ho : lo_ok lv i = true) (h : lv_has ls' nL ((i, v) :: (lo_l lv).filter (fun q => !(q.1 == i) && !(q.1 + 1 == i && q.2.category == 2)))) : lo_has ls' nL (lv.set i (some v)) := by
  refine ⟨h.1, h.2.1, fun j w hj => ?_⟩
  by_cases hji : j = i
  · subst hji
    have hl : j < (lv.set j (some v)).length := (List.getElem?_eq_some_iff.mp hj).1
    rw [List.getElem?_set_self (by simpa using hl)] at hj
    have e1 : v = w := Option.some.inj (Option.some.inj hj)
    subst e1
    exact h.2.2 (j, v) List.mem_cons_self
  · rw [List.getElem?_set_ne (Ne.symm hji)] at hj
    refine h.2.2 (j, w) (List.mem_cons_of_mem _ (List.mem_filter.mpr ⟨lo_mem.mpr hj, ?_⟩))
    have hc : ¬ (j + 1 = i ∧ w.category = 2) := by
      rintro ⟨e1, e2⟩
      subst e1
      simp only [lo_ok, hj] at ho
      rw [e2] at ho
      exact absurd ho (by decide)
    simp [hji]
    by_cases e1 : j + 1 = i
    · exact Or.inr (fun e2 => hc ⟨e1, e2⟩)
    · exact Or.inl e1
theorem lo_set2 {ls' : Array Slot} {nL i : Nat} {v : Value} {lv : List (Option Value)} (ho : lo_ok lv i = true) (h : lv_has ls' nL ((i, v) :: (lo_l lv).filter (fun q => !(q.1 == i) && (!(q.1 == i + 1) && !(q.1 + 1 == i && q.2.category == 2))))) : lo_has ls' nL ((lv.set (i + 1) none).set i (some v)) := by
  refine ⟨h.1, h.2.1, fun j w hj => ?_⟩
  by_cases hji : j = i
  · subst hji
    have hl : j < ((lv.set (j + 1) none).set j (some v)).length := (List.getElem?_eq_some_iff.mp hj).1
    rw [List.getElem?_set_self (by simpa using hl)] at hj
    have e1 : v = w := Option.some.inj (Option.some.inj hj)
    subst e1
    exact h.2.2 (j, v) List.mem_cons_self
  · rw [List.getElem?_set_ne (Ne.symm hji)] at hj
    by_cases hj1 : j = i + 1
    · subst hj1
      have hl : i + 1 < (lv.set (i + 1) none).length := (List.getElem?_eq_some_iff.mp hj).1
      rw [List.getElem?_set_self (by simpa using hl)] at hj
      cases hj
    · rw [List.getElem?_set_ne (Ne.symm hj1)] at hj
      refine h.2.2 (j, w) (List.mem_cons_of_mem _ (List.mem_filter.mpr ⟨lo_mem.mpr hj, ?_⟩))
      have hc : ¬ (j + 1 = i ∧ w.category = 2) := by
        rintro ⟨e1, e2⟩
        subst e1
        simp only [lo_ok, hj] at ho
        rw [e2] at ho
        exact absurd ho (by decide)
      simp [hji, hj1]
      by_cases e1 : j + 1 = i
      · exact Or.inr (fun e2 => hc ⟨e1, e2⟩)
      · exact Or.inl e1
/-- fewer locals known -/
def lo_le (a b : List (Option Value)) : Prop := ∀ (i : Nat) (v : Value), a[i]? = some (some v) → b[i]? = some (some v)
theorem lo_le_nil (b : List (Option Value)) : lo_le [] b := fun i v h => by simp at h
theorem lo_le_cons {a b : List (Option Value)} (x : Option Value) (h : lo_le a b) : lo_le (x :: a) (x :: b) := fun i v hi => by
  cases i with
  | zero => exact hi
  | succ j => exact h j v hi
theorem lo_le_none {a b : List (Option Value)} (x : Option Value) (h : lo_le a b) : lo_le (none :: a) (x :: b) := fun i v hi => by
  cases i with
  | zero => cases hi
  | succ j => exact h j v hi
def lo_mask : List Bool → List (Option Value) → List (Option Value)
  | b :: bs, v :: vs => (if b then v else none) :: lo_mask bs vs
  | _, _ => []
theorem lo_mask_le : ∀ (bs : List Bool) (vs : List (Option Value)), lo_le (lo_mask bs vs) vs
  | [], vs => lo_le_nil _
  | b :: bs, [] => lo_le_nil _
  | b :: bs, v :: vs => by
    cases b
    · exact lo_le_none v (lo_mask_le bs vs)
    · exact lo_le_cons v (lo_mask_le bs vs)
def VV (X : cx_T) (M : ms_T) (Q : State → Prop) (k n : Nat) (tys : List (ClassId × FieldType)) (ws pl : va_W) (lv : List (Option Value)) (st : List Value) (pc : Nat) : Prop :=
  cx_ok X M → ∀ (H : Heap) (locs : List Loc) (ls : Array Slot), va_K (cx_D X) classes tys (cx_s X) → va_P (cx_D X) classes (ws ++ pl) H → va_D (cx_B X) (ws ++ pl) → va_S (cx_A X) (cx_s X).heap H locs → lo_has ls M.2.1 lv →
    W (cx_p X) (cx_l X) (cx_e X) M.2.2.2 (cx_s X) (cx_m X) (cx_a X) (cx_b X) (cx_M X) (cx_c X) H locs k n Q (F0 (cx_m X) pc ls st)
section VV
variable {X : cx_T} {M : ms_T} {Q : State → Prop} {k n : Nat} {tys : List (ClassId × FieldType)} {ws pl : va_W} {lv : List (Option Value)} {st : List Value} {pc : Nat}
theorem vv_mask (bs : List Bool) (kk : VV X M Q k n tys ws pl (lo_mask bs lv) st pc) : VV X M Q k n tys ws pl lv st pc := fun C H locs ls hK hP hD hS hl => kk C H locs ls hK hP hD hS ⟨hl.1, hl.2.1, fun i v h => hl.2.2 i v (lo_mask_le bs lv i v h)⟩
theorem vv_le {lv' : List (Option Value)} (hle : lo_le lv' lv) (kk : VV X M Q k n tys ws pl lv' st pc) : VV X M Q k n tys ws pl lv st pc := fun C H locs ls hK hP hD hS hl => kk C H locs ls hK hP hD hS ⟨hl.1, hl.2.1, fun i v h => hl.2.2 i v (hle i v h)⟩
theorem vv_widen {k' n' : Nat} (h1 : k ≤ k') (h2 : n ≤ n') (kk : VV X M Q k' n' tys ws pl lv st pc) : VV X M Q k n tys ws pl lv st pc := fun C H locs ls hK hP hD hS hl => W.widen h1 h2 (kk C H locs ls hK hP hD hS hl)
theorem vv_sub {ws' : va_W} (is : List Nat) (hn : va_nd is = true) (hs : is.map (fun i => ws[i]?) = ws'.map some) (kk : VV X M Q k n tys ws' pl lv st pc) : VV X M Q k n tys ws pl lv st pc := fun C H locs ls hK hP hD hS hl => kk C H locs ls hK (hP.part is hs) (hD.part is hn hs) hS hl
theorem vv_tys {tys' : List (ClassId × FieldType)} (is : List Nat) (hs : is.filterMap (fun i => tys[i]?) = tys') (kk : VV X M Q k n tys' ws pl lv st pc) : VV X M Q k n tys ws pl lv st pc := fun C H locs ls hK hP hD hS hl => kk C H locs ls (hK.sub is hs) hP hD hS hl

theorem vv_iconst {z : Int} (hd : decode M.1 pc = .ok (.iconst z, 1)) (kk : VV X M Q k n tys ws pl lv (.int (iI z) :: st) (pc + 1)) : VV X M Q k n tys ws pl lv (st) pc := fun C H locs ls hK hP hD hS hl => lv_iconst C.1 C.2.1 hd rfl (kk C H locs ls hK hP hD hS hl)
theorem vv_bipush {z : Int} (hd : decode M.1 pc = .ok (.bipush z, 2)) (hz : (Int8.ofInt z).toInt32 = iI z) (kk : VV X M Q k n tys ws pl lv (.int (iI z) :: st) (pc + 2)) : VV X M Q k n tys ws pl lv (st) pc := fun C H locs ls hK hP hD hS hl => lv_bipush C.1 C.2.1 hd hz (kk C H locs ls hK hP hD hS hl)
theorem vv_sipush {z : Int} (hd : decode M.1 pc = .ok (.sipush z, 3)) (hz : (Int16.ofInt z).toInt32 = iI z) (kk : VV X M Q k n tys ws pl lv (.int (iI z) :: st) (pc + 3)) : VV X M Q k n tys ws pl lv (st) pc := fun C H locs ls hK hP hD hS hl => lv_sipush C.1 C.2.1 hd hz (kk C H locs ls hK hP hD hS hl)
theorem vv_null (hd : decode M.1 pc = .ok (.aconst_null, 1)) (kk : VV X M Q k n tys ws pl lv (.null :: st) (pc + 1)) : VV X M Q k n tys ws pl lv (st) pc := fun C H locs ls hK hP hD hS hl => lv_null C.1 C.2.1 hd (kk C H locs ls hK hP hD hS hl)
theorem vv_iload_n {j : Fin 4} {x : Int32} (hd : decode M.1 pc = .ok (.iload_n j, 1)) (hv : lv[(j : Nat)]? = some (some (.int x))) (kk : VV X M Q k n tys ws pl lv (.int x :: st) (pc + 1)) : VV X M Q k n tys ws pl lv (st) pc := fun C H locs ls hK hP hD hS hl => lv_iload_n C.1 C.2.1 hd rfl (hl.2.2 _ _ hv) (kk C H locs ls hK hP hD hS hl)
theorem vv_iload {j : Nat} {x : Int32} (hd : decode M.1 pc = .ok (.iload j, 2)) (hv : lv[j]? = some (some (.int x))) (kk : VV X M Q k n tys ws pl lv (.int x :: st) (pc + 2)) : VV X M Q k n tys ws pl lv (st) pc := fun C H locs ls hK hP hD hS hl => lv_iload C.1 C.2.1 hd (hl.2.2 _ _ hv) (kk C H locs ls hK hP hD hS hl)
theorem vv_aload_n {j : Fin 4} {x : Nat} (hd : decode M.1 pc = .ok (.aload_n j, 1)) (hv : lv[(j : Nat)]? = some (some (.ref x))) (kk : VV X M Q k n tys ws pl lv (.ref x :: st) (pc + 1)) : VV X M Q k n tys ws pl lv (st) pc := fun C H locs ls hK hP hD hS hl => lv_aload_n C.1 C.2.1 hd rfl (hl.2.2 _ _ hv) (kk C H locs ls hK hP hD hS hl)
theorem vv_aload {j : Nat} {x : Nat} (hd : decode M.1 pc = .ok (.aload j, 2)) (hv : lv[j]? = some (some (.ref x))) (kk : VV X M Q k n tys ws pl lv (.ref x :: st) (pc + 2)) : VV X M Q k n tys ws pl lv (st) pc := fun C H locs ls hK hP hD hS hl => lv_aload C.1 C.2.1 hd (hl.2.2 _ _ hv) (kk C H locs ls hK hP hD hS hl)
theorem vv_lload_n {j : Fin 4} {x : Int64} (hd : decode M.1 pc = .ok (.lload_n j, 1)) (hv : lv[(j : Nat)]? = some (some (.long x))) (kk : VV X M Q k n tys ws pl lv (.long x :: st) (pc + 1)) : VV X M Q k n tys ws pl lv (st) pc := fun C H locs ls hK hP hD hS hl => lv_lload_n C.1 C.2.1 hd rfl (hl.2.2 _ _ hv) (kk C H locs ls hK hP hD hS hl)
theorem vv_lload {j : Nat} {x : Int64} (hd : decode M.1 pc = .ok (.lload j, 2)) (hv : lv[j]? = some (some (.long x))) (kk : VV X M Q k n tys ws pl lv (.long x :: st) (pc + 2)) : VV X M Q k n tys ws pl lv (st) pc := fun C H locs ls hK hP hD hS hl => lv_lload C.1 C.2.1 hd (hl.2.2 _ _ hv) (kk C H locs ls hK hP hD hS hl)
theorem vv_istore_n {j : Fin 4} {x : Int32} (hd : decode M.1 pc = .ok (.istore_n j, 1)) (ho : lo_ok lv (j : Nat) = true) (hn : (j : Nat) < M.2.1) (kk : VV X M Q k n tys ws pl (lv.set (j : Nat) (some (.int x))) st (pc + 1)) : VV X M Q k n tys ws pl lv (.int x :: st) pc := fun C H locs ls hK hP hD hS hl => lv_istore_n C.1 C.2.1 hd rfl (lo_to hl) hn rfl (fun ls' h' => kk C H locs ls' hK hP hD hS (lo_set ho h'))
theorem vv_istore {j : Nat} {x : Int32} (hd : decode M.1 pc = .ok (.istore j, 2)) (ho : lo_ok lv j = true) (hn : j < M.2.1) (kk : VV X M Q k n tys ws pl (lv.set j (some (.int x))) st (pc + 2)) : VV X M Q k n tys ws pl lv (.int x :: st) pc := fun C H locs ls hK hP hD hS hl => lv_istore C.1 C.2.1 hd (lo_to hl) hn rfl (fun ls' h' => kk C H locs ls' hK hP hD hS (lo_set ho h'))
theorem vv_astore_n {j : Fin 4} {x : Nat} (hd : decode M.1 pc = .ok (.astore_n j, 1)) (ho : lo_ok lv (j : Nat) = true) (hn : (j : Nat) < M.2.1) (kk : VV X M Q k n tys ws pl (lv.set (j : Nat) (some (.ref x))) st (pc + 1)) : VV X M Q k n tys ws pl lv (.ref x :: st) pc := fun C H locs ls hK hP hD hS hl => lv_astore_n C.1 C.2.1 hd rfl (lo_to hl) hn rfl (fun ls' h' => kk C H locs ls' hK hP hD hS (lo_set ho h'))
theorem vv_astore {j : Nat} {x : Nat} (hd : decode M.1 pc = .ok (.astore j, 2)) (ho : lo_ok lv j = true) (hn : j < M.2.1) (kk : VV X M Q k n tys ws pl (lv.set j (some (.ref x))) st (pc + 2)) : VV X M Q k n tys ws pl lv (.ref x :: st) pc := fun C H locs ls hK hP hD hS hl => lv_astore C.1 C.2.1 hd (lo_to hl) hn rfl (fun ls' h' => kk C H locs ls' hK hP hD hS (lo_set ho h'))
theorem vv_lstore_n {j : Fin 4} {x : Int64} (hd : decode M.1 pc = .ok (.lstore_n j, 1)) (ho : lo_ok lv (j : Nat) = true) (hn : (j : Nat) + 1 < M.2.1) (kk : VV X M Q k n tys ws pl ((lv.set ((j : Nat) + 1) none).set (j : Nat) (some (.long x))) st (pc + 1)) : VV X M Q k n tys ws pl lv (.long x :: st) pc := fun C H locs ls hK hP hD hS hl => lv_lstore_n C.1 C.2.1 hd rfl (lo_to hl) hn rfl (fun ls' h' => kk C H locs ls' hK hP hD hS (lo_set2 ho h'))
theorem vv_lstore {j : Nat} {x : Int64} (hd : decode M.1 pc = .ok (.lstore j, 2)) (ho : lo_ok lv j = true) (hn : j + 1 < M.2.1) (kk : VV X M Q k n tys ws pl ((lv.set (j + 1) none).set j (some (.long x))) st (pc + 2)) : VV X M Q k n tys ws pl lv (.long x :: st) pc := fun C H locs ls hK hP hD hS hl => lv_lstore C.1 C.2.1 hd (lo_to hl) hn rfl (fun ls' h' => kk C H locs ls' hK hP hD hS (lo_set2 ho h'))
theorem vv_iinc {j : Nat} {z a : Int} (hd : decode M.1 pc = .ok (.iinc j z, 3)) (hv : lv[j]? = some (some (.int (iI a)))) (ho : lo_ok lv j = true) (hn : j < M.2.1) (kk : VV X M Q k n tys ws pl (lv.set j (some (.int (iI (a + z))))) st (pc + 3)) : VV X M Q k n tys ws pl lv st pc := fun C H locs ls hK hP hD hS hl => by
  obtain ⟨i0, h0⟩ := List.getElem?_of_mem (lo_mem.mpr hv)
  exact lv_iinc C.1 C.2.1 hd (lo_to hl) h0 (iI_add a z) hn rfl (fun ls' h' => kk C H locs ls' hK hP hD hS (lo_set ho h'))
theorem vv_iadd {a b : Int} (hd : decode M.1 pc = .ok (.iadd, 1)) (kk : VV X M Q k n tys ws pl lv (.int (iI (a + b)) :: st) (pc + 1)) : VV X M Q k n tys ws pl lv (.int (iI b) :: .int (iI a) :: st) pc := fun C H locs ls hK hP hD hS hl => lv_iadd C.1 C.2.1 hd (by rw [iI_add]; exact kk C H locs ls hK hP hD hS hl)
theorem vv_isub {a b : Int} (hd : decode M.1 pc = .ok (.isub, 1)) (kk : VV X M Q k n tys ws pl lv (.int (iI (a - b)) :: st) (pc + 1)) : VV X M Q k n tys ws pl lv (.int (iI b) :: .int (iI a) :: st) pc := fun C H locs ls hK hP hD hS hl => lv_isub C.1 C.2.1 hd (by rw [iI_sub]; exact kk C H locs ls hK hP hD hS hl)
theorem vv_imul {a b : Int} (hd : decode M.1 pc = .ok (.imul, 1)) (kk : VV X M Q k n tys ws pl lv (.int (iI (a * b)) :: st) (pc + 1)) : VV X M Q k n tys ws pl lv (.int (iI b) :: .int (iI a) :: st) pc := fun C H locs ls hK hP hD hS hl => lv_imul C.1 C.2.1 hd (by rw [iI_mul]; exact kk C H locs ls hK hP hD hS hl)
theorem vv_idiv {a b : Int} (hd : decode M.1 pc = .ok (.idiv, 1)) (h : (-2147483648 ≤ a ∧ a < 2147483648) ∧ 0 < b ∧ b < 2147483648) (kk : VV X M Q k n tys ws pl lv (.int (iI (a.tdiv b)) :: st) (pc + 1)) : VV X M Q k n tys ws pl lv (.int (iI b) :: .int (iI a) :: st) pc := fun C H locs ls hK hP hD hS hl => lv_idiv C.1 C.2.1 hd (iI_ne0 h.2.1 h.2.2) (by rw [iI_tdiv h.1.1 h.1.2 h.2.1 h.2.2]; exact kk C H locs ls hK hP hD hS hl)
theorem vv_iand {x y v : Int32} (hd : decode M.1 pc = .ok (.iand, 1)) (hv : x &&& y = v) (kk : VV X M Q k n tys ws pl lv (.int v :: st) (pc + 1)) : VV X M Q k n tys ws pl lv (.int y :: .int x :: st) pc := fun C H locs ls hK hP hD hS hl => lv_iand C.1 C.2.1 hd (by rw [hv]; exact kk C H locs ls hK hP hD hS hl)
theorem vv_ior {x y v : Int32} (hd : decode M.1 pc = .ok (.ior, 1)) (hv : x ||| y = v) (kk : VV X M Q k n tys ws pl lv (.int v :: st) (pc + 1)) : VV X M Q k n tys ws pl lv (.int y :: .int x :: st) pc := fun C H locs ls hK hP hD hS hl => lv_ior C.1 C.2.1 hd (by rw [hv]; exact kk C H locs ls hK hP hD hS hl)
theorem vv_ixor {x y v : Int32} (hd : decode M.1 pc = .ok (.ixor, 1)) (hv : x ^^^ y = v) (kk : VV X M Q k n tys ws pl lv (.int v :: st) (pc + 1)) : VV X M Q k n tys ws pl lv (.int y :: .int x :: st) pc := fun C H locs ls hK hP hD hS hl => lv_ixor C.1 C.2.1 hd (by rw [hv]; exact kk C H locs ls hK hP hD hS hl)
theorem vv_ishl {x y v : Int32} (hd : decode M.1 pc = .ok (.ishl, 1)) (hv : x <<< (y &&& 31) = v) (kk : VV X M Q k n tys ws pl lv (.int v :: st) (pc + 1)) : VV X M Q k n tys ws pl lv (.int y :: .int x :: st) pc := fun C H locs ls hK hP hD hS hl => lv_ishl C.1 C.2.1 hd (by rw [hv]; exact kk C H locs ls hK hP hD hS hl)
theorem vv_ishr {x y v : Int32} (hd : decode M.1 pc = .ok (.ishr, 1)) (hv : x >>> (y &&& 31) = v) (kk : VV X M Q k n tys ws pl lv (.int v :: st) (pc + 1)) : VV X M Q k n tys ws pl lv (.int y :: .int x :: st) pc := fun C H locs ls hK hP hD hS hl => lv_ishr C.1 C.2.1 hd (by rw [hv]; exact kk C H locs ls hK hP hD hS hl)
theorem vv_i2l {x : Int32} {v : Int64} (hd : decode M.1 pc = .ok (.i2l, 1)) (hv : x.toInt64 = v) (kk : VV X M Q k n tys ws pl lv (.long v :: st) (pc + 1)) : VV X M Q k n tys ws pl lv (.int x :: st) pc := fun C H locs ls hK hP hD hS hl => lv_i2l C.1 C.2.1 hd hv (kk C H locs ls hK hP hD hS hl)
theorem vv_ladd {x y v : Int64} (hd : decode M.1 pc = .ok (.ladd, 1)) (hv : x + y = v) (kk : VV X M Q k n tys ws pl lv (.long v :: st) (pc + 1)) : VV X M Q k n tys ws pl lv (.long y :: .long x :: st) pc := fun C H locs ls hK hP hD hS hl => lv_ladd C.1 C.2.1 hd (by rw [hv]; exact kk C H locs ls hK hP hD hS hl)
theorem vv_lsub {x y v : Int64} (hd : decode M.1 pc = .ok (.lsub, 1)) (hv : x - y = v) (kk : VV X M Q k n tys ws pl lv (.long v :: st) (pc + 1)) : VV X M Q k n tys ws pl lv (.long y :: .long x :: st) pc := fun C H locs ls hK hP hD hS hl => lv_lsub C.1 C.2.1 hd (by rw [hv]; exact kk C H locs ls hK hP hD hS hl)
theorem vv_lmul {x y v : Int64} (hd : decode M.1 pc = .ok (.lmul, 1)) (hv : x * y = v) (kk : VV X M Q k n tys ws pl lv (.long v :: st) (pc + 1)) : VV X M Q k n tys ws pl lv (.long y :: .long x :: st) pc := fun C H locs ls hK hP hD hS hl => lv_lmul C.1 C.2.1 hd (by rw [hv]; exact kk C H locs ls hK hP hD hS hl)
theorem vv_lconst {z : Fin 2} {v : Int64} (hd : decode M.1 pc = .ok (.lconst z, 1)) (hv : Int64.ofNat (z : Nat) = v) (kk : VV X M Q k n tys ws pl lv (.long v :: st) (pc + 1)) : VV X M Q k n tys ws pl lv (st) pc := fun C H locs ls hK hP hD hS hl => lv_lconst C.1 C.2.1 hd hv (kk C H locs ls hK hP hD hS hl)
theorem vv_lcmp {x y : Int64} {v : Int32} (hd : decode M.1 pc = .ok (.lcmp, 1)) (hv : lg_cmp x y = v) (kk : VV X M Q k n tys ws pl lv (.int v :: st) (pc + 1)) : VV X M Q k n tys ws pl lv (.long y :: .long x :: st) pc := fun C H locs ls hK hP hD hS hl => W.lcmp C.1 C.2.1 hd (by rw [hv]; exact kk C H locs ls hK hP hD hS hl)
theorem vv_dup {u : Value} (hd : decode M.1 pc = .ok (.dup, 1)) (hu : u.category = 1) (kk : VV X M Q k n tys ws pl lv (u :: u :: st) (pc + 1)) : VV X M Q k n tys ws pl lv (u :: st) pc := fun C H locs ls hK hP hD hS hl => lv_dup C.1 C.2.1 hd hu (kk C H locs ls hK hP hD hS hl)
theorem vv_pop {u : Value} (hd : decode M.1 pc = .ok (.pop, 1)) (hu : u.category = 1) (kk : VV X M Q k n tys ws pl lv (st) (pc + 1)) : VV X M Q k n tys ws pl lv (u :: st) pc := fun C H locs ls hK hP hD hS hl => lv_pop C.1 C.2.1 hd hu (kk C H locs ls hK hP hD hS hl)
theorem vv_dup_x1 {u w : Value} (hd : decode M.1 pc = .ok (.dup_x1, 1)) (hu : u.category = 1) (hw : w.category = 1) (kk : VV X M Q k n tys ws pl lv (u :: w :: u :: st) (pc + 1)) : VV X M Q k n tys ws pl lv (u :: w :: st) pc := fun C H locs ls hK hP hD hS hl => lv_dup_x1 C.1 C.2.1 hd hu hw (kk C H locs ls hK hP hD hS hl)
theorem vv_dup_x2 {u w z : Value} (hd : decode M.1 pc = .ok (.dup_x2, 1)) (hu : u.category = 1) (hw : w.category = 1) (hz : z.category = 1) (kk : VV X M Q k n tys ws pl lv (u :: w :: z :: u :: st) (pc + 1)) : VV X M Q k n tys ws pl lv (u :: w :: z :: st) pc := fun C H locs ls hK hP hD hS hl => lv_dup_x2 C.1 C.2.1 hd hu hw hz (kk C H locs ls hK hP hD hS hl)
theorem vv_dup2 {u w : Value} (hd : decode M.1 pc = .ok (.dup2, 1)) (hu : u.category = 1) (hw : w.category = 1) (kk : VV X M Q k n tys ws pl lv (u :: w :: u :: w :: st) (pc + 1)) : VV X M Q k n tys ws pl lv (u :: w :: st) pc := fun C H locs ls hK hP hD hS hl => lv_dup2_11 C.1 C.2.1 hd hu hw (kk C H locs ls hK hP hD hS hl)
theorem vv_goto {off : Int} {tgt : Nat} (hd : decode M.1 pc = .ok (.goto off, 3)) (ht : (pc : Int) + off = (tgt : Int)) (kk : VV X M Q k n tys ws pl lv st tgt) : VV X M Q k n tys ws pl lv st pc := fun C H locs ls hK hP hD hS hl => lv_goto C.1 C.2.1 hd ht (kk C H locs ls hK hP hD hS hl)
theorem vv_icmp_eq {a b : Int} {off : Int} {tgt : Nat} (hd : decode M.1 pc = .ok (.if_icmp .eq off, 3)) (ht : (pc : Int) + off = (tgt : Int)) (h : (-2147483648 ≤ a ∧ a < 2147483648) ∧ -2147483648 ≤ b ∧ b < 2147483648) (kt : a = b → VV X M Q k n tys ws pl lv st tgt) (kf : ¬ a = b → VV X M Q k n tys ws pl lv st (pc + 3)) : VV X M Q k n tys ws pl lv (.int (iI b) :: .int (iI a) :: st) pc := fun C H locs ls hK hP hD hS hl => lv_icmp_eq C.1 C.2.1 hd ht (fun q => kt ((iI_eq h.1.1 h.1.2 h.2.1 h.2.2).mp q) C H locs ls hK hP hD hS hl) (fun q => kf (fun z => q ((iI_eq h.1.1 h.1.2 h.2.1 h.2.2).mpr z)) C H locs ls hK hP hD hS hl)
theorem vv_if_eq {a : Int} {off : Int} {tgt : Nat} (hd : decode M.1 pc = .ok (.ifCond .eq off, 3)) (ht : (pc : Int) + off = (tgt : Int)) (h : -2147483648 ≤ a ∧ a < 2147483648) (kt : a = 0 → VV X M Q k n tys ws pl lv st tgt) (kf : ¬ a = 0 → VV X M Q k n tys ws pl lv st (pc + 3)) : VV X M Q k n tys ws pl lv (.int (iI a) :: st) pc := fun C H locs ls hK hP hD hS hl => lv_if_eq C.1 C.2.1 hd ht (fun q => kt ((zz_eq h.1 h.2).mp q) C H locs ls hK hP hD hS hl) (fun q => kf (fun z => q ((zz_eq h.1 h.2).mpr z)) C H locs ls hK hP hD hS hl)
theorem vv_icmp_ne {a b : Int} {off : Int} {tgt : Nat} (hd : decode M.1 pc = .ok (.if_icmp .ne off, 3)) (ht : (pc : Int) + off = (tgt : Int)) (h : (-2147483648 ≤ a ∧ a < 2147483648) ∧ -2147483648 ≤ b ∧ b < 2147483648) (kt : ¬ a = b → VV X M Q k n tys ws pl lv st tgt) (kf : a = b → VV X M Q k n tys ws pl lv st (pc + 3)) : VV X M Q k n tys ws pl lv (.int (iI b) :: .int (iI a) :: st) pc := fun C H locs ls hK hP hD hS hl => lv_icmp_ne C.1 C.2.1 hd ht (fun q => kt (fun z => q ((iI_eq h.1.1 h.1.2 h.2.1 h.2.2).mpr z)) C H locs ls hK hP hD hS hl) (fun q => kf ((iI_eq h.1.1 h.1.2 h.2.1 h.2.2).mp q) C H locs ls hK hP hD hS hl)
theorem vv_if_ne {a : Int} {off : Int} {tgt : Nat} (hd : decode M.1 pc = .ok (.ifCond .ne off, 3)) (ht : (pc : Int) + off = (tgt : Int)) (h : -2147483648 ≤ a ∧ a < 2147483648) (kt : ¬ a = 0 → VV X M Q k n tys ws pl lv st tgt) (kf : a = 0 → VV X M Q k n tys ws pl lv st (pc + 3)) : VV X M Q k n tys ws pl lv (.int (iI a) :: st) pc := fun C H locs ls hK hP hD hS hl => lv_if_ne C.1 C.2.1 hd ht (fun q => kt (fun z => q ((zz_eq h.1 h.2).mpr z)) C H locs ls hK hP hD hS hl) (fun q => kf ((zz_eq h.1 h.2).mp q) C H locs ls hK hP hD hS hl)
theorem vv_icmp_lt {a b : Int} {off : Int} {tgt : Nat} (hd : decode M.1 pc = .ok (.if_icmp .lt off, 3)) (ht : (pc : Int) + off = (tgt : Int)) (h : (-2147483648 ≤ a ∧ a < 2147483648) ∧ -2147483648 ≤ b ∧ b < 2147483648) (kt : a < b → VV X M Q k n tys ws pl lv st tgt) (kf : ¬ a < b → VV X M Q k n tys ws pl lv st (pc + 3)) : VV X M Q k n tys ws pl lv (.int (iI b) :: .int (iI a) :: st) pc := fun C H locs ls hK hP hD hS hl => lv_icmp_lt C.1 C.2.1 hd ht (fun q => kt ((iI_lt h.1.1 h.1.2 h.2.1 h.2.2).mp q) C H locs ls hK hP hD hS hl) (fun q => kf (fun z => q ((iI_lt h.1.1 h.1.2 h.2.1 h.2.2).mpr z)) C H locs ls hK hP hD hS hl)
theorem vv_if_lt {a : Int} {off : Int} {tgt : Nat} (hd : decode M.1 pc = .ok (.ifCond .lt off, 3)) (ht : (pc : Int) + off = (tgt : Int)) (h : -2147483648 ≤ a ∧ a < 2147483648) (kt : a < 0 → VV X M Q k n tys ws pl lv st tgt) (kf : ¬ a < 0 → VV X M Q k n tys ws pl lv st (pc + 3)) : VV X M Q k n tys ws pl lv (.int (iI a) :: st) pc := fun C H locs ls hK hP hD hS hl => lv_if_lt C.1 C.2.1 hd ht (fun q => kt ((zz_lt h.1 h.2).mp q) C H locs ls hK hP hD hS hl) (fun q => kf (fun z => q ((zz_lt h.1 h.2).mpr z)) C H locs ls hK hP hD hS hl)
theorem vv_icmp_ge {a b : Int} {off : Int} {tgt : Nat} (hd : decode M.1 pc = .ok (.if_icmp .ge off, 3)) (ht : (pc : Int) + off = (tgt : Int)) (h : (-2147483648 ≤ a ∧ a < 2147483648) ∧ -2147483648 ≤ b ∧ b < 2147483648) (kt : b ≤ a → VV X M Q k n tys ws pl lv st tgt) (kf : ¬ b ≤ a → VV X M Q k n tys ws pl lv st (pc + 3)) : VV X M Q k n tys ws pl lv (.int (iI b) :: .int (iI a) :: st) pc := fun C H locs ls hK hP hD hS hl => lv_icmp_ge C.1 C.2.1 hd ht (fun q => kt ((iI_le h.2.1 h.2.2 h.1.1 h.1.2).mp q) C H locs ls hK hP hD hS hl) (fun q => kf (fun z => q ((iI_le h.2.1 h.2.2 h.1.1 h.1.2).mpr z)) C H locs ls hK hP hD hS hl)
theorem vv_if_ge {a : Int} {off : Int} {tgt : Nat} (hd : decode M.1 pc = .ok (.ifCond .ge off, 3)) (ht : (pc : Int) + off = (tgt : Int)) (h : -2147483648 ≤ a ∧ a < 2147483648) (kt : 0 ≤ a → VV X M Q k n tys ws pl lv st tgt) (kf : ¬ 0 ≤ a → VV X M Q k n tys ws pl lv st (pc + 3)) : VV X M Q k n tys ws pl lv (.int (iI a) :: st) pc := fun C H locs ls hK hP hD hS hl => lv_if_ge C.1 C.2.1 hd ht (fun q => kt ((zz_ge h.1 h.2).mp q) C H locs ls hK hP hD hS hl) (fun q => kf (fun z => q ((zz_ge h.1 h.2).mpr z)) C H locs ls hK hP hD hS hl)
theorem vv_icmp_gt {a b : Int} {off : Int} {tgt : Nat} (hd : decode M.1 pc = .ok (.if_icmp .gt off, 3)) (ht : (pc : Int) + off = (tgt : Int)) (h : (-2147483648 ≤ a ∧ a < 2147483648) ∧ -2147483648 ≤ b ∧ b < 2147483648) (kt : b < a → VV X M Q k n tys ws pl lv st tgt) (kf : ¬ b < a → VV X M Q k n tys ws pl lv st (pc + 3)) : VV X M Q k n tys ws pl lv (.int (iI b) :: .int (iI a) :: st) pc := fun C H locs ls hK hP hD hS hl => lv_icmp_gt C.1 C.2.1 hd ht (fun q => kt ((iI_lt h.2.1 h.2.2 h.1.1 h.1.2).mp q) C H locs ls hK hP hD hS hl) (fun q => kf (fun z => q ((iI_lt h.2.1 h.2.2 h.1.1 h.1.2).mpr z)) C H locs ls hK hP hD hS hl)
theorem vv_if_gt {a : Int} {off : Int} {tgt : Nat} (hd : decode M.1 pc = .ok (.ifCond .gt off, 3)) (ht : (pc : Int) + off = (tgt : Int)) (h : -2147483648 ≤ a ∧ a < 2147483648) (kt : 0 < a → VV X M Q k n tys ws pl lv st tgt) (kf : ¬ 0 < a → VV X M Q k n tys ws pl lv st (pc + 3)) : VV X M Q k n tys ws pl lv (.int (iI a) :: st) pc := fun C H locs ls hK hP hD hS hl => lv_if_gt C.1 C.2.1 hd ht (fun q => kt ((zz_gt h.1 h.2).mp q) C H locs ls hK hP hD hS hl) (fun q => kf (fun z => q ((zz_gt h.1 h.2).mpr z)) C H locs ls hK hP hD hS hl)
theorem vv_icmp_le {a b : Int} {off : Int} {tgt : Nat} (hd : decode M.1 pc = .ok (.if_icmp .le off, 3)) (ht : (pc : Int) + off = (tgt : Int)) (h : (-2147483648 ≤ a ∧ a < 2147483648) ∧ -2147483648 ≤ b ∧ b < 2147483648) (kt : a ≤ b → VV X M Q k n tys ws pl lv st tgt) (kf : ¬ a ≤ b → VV X M Q k n tys ws pl lv st (pc + 3)) : VV X M Q k n tys ws pl lv (.int (iI b) :: .int (iI a) :: st) pc := fun C H locs ls hK hP hD hS hl => lv_icmp_le C.1 C.2.1 hd ht (fun q => kt ((iI_le h.1.1 h.1.2 h.2.1 h.2.2).mp q) C H locs ls hK hP hD hS hl) (fun q => kf (fun z => q ((iI_le h.1.1 h.1.2 h.2.1 h.2.2).mpr z)) C H locs ls hK hP hD hS hl)
theorem vv_if_le {a : Int} {off : Int} {tgt : Nat} (hd : decode M.1 pc = .ok (.ifCond .le off, 3)) (ht : (pc : Int) + off = (tgt : Int)) (h : -2147483648 ≤ a ∧ a < 2147483648) (kt : a ≤ 0 → VV X M Q k n tys ws pl lv st tgt) (kf : ¬ a ≤ 0 → VV X M Q k n tys ws pl lv st (pc + 3)) : VV X M Q k n tys ws pl lv (.int (iI a) :: st) pc := fun C H locs ls hK hP hD hS hl => lv_if_le C.1 C.2.1 hd ht (fun q => kt ((zz_le h.1 h.2).mp q) C H locs ls hK hP hD hS hl) (fun q => kf (fun z => q ((zz_le h.1 h.2).mpr z)) C H locs ls hK hP hD hS hl)
theorem vv_at {q0 : Nat} {x : Nat × va_E} (h : ws[q0]? = some x) : (ws ++ pl)[q0]? = some x := by
  rw [List.getElem?_append_left (List.getElem?_eq_some_iff.mp h).1]
  exact h
theorem vv_sets {q0 : Nat} {x y : Nat × va_E} (h : ws[q0]? = some x) : (ws ++ pl).set q0 y = ws.set q0 y ++ pl := List.set_append_left q0 y (List.getElem?_eq_some_iff.mp h).1
theorem vv_get {idx ci a j : Nat} {fs : List Value} {v : Value} (hd : decode M.1 pc = .ok (.getfield idx, 3)) (q0 : Nat) (he : ws[q0]? = some (a, .inr (ci, fs))) (hf : fl_ok M.2.2.1 idx ci j) (hv : fs[j]? = some v) (kk : VV X M Q k n tys ws pl lv (v :: st) (pc + 3)) : VV X M Q k n tys ws pl lv (.ref a :: st) pc := fun C H locs ls hK hP hD hS hl => by
  obtain ⟨Cn, T, N, h1, h2, h3, h4, h5⟩ := hf
  have hts : ∀ w ∈ tb_l, w.before (cx_a X) (cx_s X) = true := fun w hw => C.2.2.2.2.1 w hw _
  rcases h4 with h4 | ⟨host, h4⟩
  · exact va_get C.1 C.2.1 hts h3 C.2.2.2.1 hK hP q0 (vv_at he) h1 j h2 (hts _ h4) (fun x hx => by rw [h5] at hx; exact hx) hv hd (kk C H locs ls hK hP hD hS hl)
  · exact va_getN C.1 C.2.1 hts h3 C.2.2.2.1 hK hP q0 (vv_at he) h1 j h2 (hts _ h4) (fun x hx => by rw [h5] at hx; exact hx) hv hd (kk C H locs ls hK hP hD hS hl)
theorem vv_put (hw : cx_w X) {idx ci a j : Nat} {fs : List Value} {v : Value} {ty : FieldType} (hd : decode M.1 pc = .ok (.putfield idx, 3)) (q0 : Nat) (he : ws[q0]? = some (a, .inr (ci, fs))) (hf : fp_ok M.2.2.1 idx ci j ty) (hn : narrow ty v = v) (hfit : fits ty v = true) (hj : j < fs.length) (kk : VV X M Q k n tys (ws.set q0 (a, .inr (ci, fs.set j v))) pl lv st (pc + 3)) : VV X M Q k n tys ws pl lv (v :: .ref a :: st) pc := fun C H locs ls hK hP hD hS hl => by
  obtain ⟨Cn, T, N, t, h1, h2, h3, h4, h5, h6, h7, h8, h9⟩ := hf
  have hts : ∀ w ∈ tb_l, w.before (cx_a X) (cx_s X) = true := fun w hw => C.2.2.2.2.1 w hw _
  rcases h4 with h4 | ⟨host, h4⟩
  · exact va_put C.1 C.2.1 hts h3 t h7 h8 C.2.2.2.1 hK hP (hD.weaken (fun _ _ _ h => hw _ h)) hS q0 (vv_at he) h1 j h2 (hts _ h4) (fun x hx => by rw [h5] at hx; exact hx) h6 (by rw [h7 j h2, h9]) hn hfit hj hd (fun H1 locs1 hP1 hD1 hS1 => kk C H1 locs1 ls hK (by rw [← vv_sets he]; exact hP1) (by rw [← vv_sets he]; exact hD.set (vv_at he)) hS1 hl)
  · exact va_putN C.1 C.2.1 hts h3 t h7 h8 C.2.2.2.1 hK hP (hD.weaken (fun _ _ _ h => hw _ h)) hS q0 (vv_at he) h1 j h2 (hts _ h4) (fun x hx => by rw [h5] at hx; exact hx) h6 (by rw [h7 j h2, h9]) hn hfit hj hd (fun H1 locs1 hP1 hD1 hS1 => kk C H1 locs1 ls hK (by rw [← vv_sets he]; exact hP1) (by rw [← vv_sets he]; exact hD.set (vv_at he)) hS1 hl)
theorem vv_putF (hw : cx_w X) {idx ci a j : Nat} {fs : List Value} {v : Value} {ty : FieldType} (hin : (cx_M X).name = "<init>") (hd : decode M.1 pc = .ok (.putfield idx, 3)) (q0 : Nat) (he : ws[q0]? = some (a, .inr (ci, fs))) (hf : fF_ok M.2.2.1 idx ci j ty) (hn : narrow ty v = v) (hfit : fits ty v = true) (hj : j < fs.length) (kk : VV X M Q k n tys (ws.set q0 (a, .inr (ci, fs.set j v))) pl lv st (pc + 3)) : VV X M Q k n tys ws pl lv (v :: .ref a :: st) pc := fun C H locs ls hK hP hD hS hl => by
  obtain ⟨Cn, T, N, t, h1, h2, h3, h4, h5, h6, h7, h8, h9, h10⟩ := hf
  have hts : ∀ w ∈ tb_l, w.before (cx_a X) (cx_s X) = true := fun w hw => C.2.2.2.2.1 w hw _
  exact va_putF C.1 C.2.1 hts h3 t h7 h8 C.2.2.2.1 hK hP (hD.weaken (fun _ _ _ h => hw _ h)) hS q0 (vv_at he) h1 j h2 (hts _ h4) (fun x hx => by rw [h5] at hx; exact hx) h6 hin h10 (by rw [h7 j h2, h9]) hn hfit hj hd (fun H1 locs1 hP1 hD1 hS1 => kk C H1 locs1 ls hK (by rw [← vv_sets he]; exact hP1) (by rw [← vv_sets he]; exact hD.set (vv_at he)) hS1 hl)
theorem vv_iald {a N : Nat} {cA : ClassId} {g : Nat → Int} {z : Int} (hd : decode M.1 pc = .ok (.iaload, 1)) (q0 t0 : Nat) (ha : ws[q0]? = some (a, .inl (cA, N, .inl (fun j => iI (g j))))) (ht : tys[t0]? = some (cA, .int)) (hz : 0 ≤ z ∧ z < (N : Int) ∧ N < 2147483648) (kk : VV X M Q k n tys ws pl lv (.int (iI (g z.toNat)) :: st) (pc + 1)) : VV X M Q k n tys ws pl lv (.int (iI z) :: .ref a :: st) pc := fun C H locs ls hK hP hD hS hl =>
  va_iald C.1 C.2.1 hK hP q0 t0 (vv_at ha) ht (iI_in hz.1 hz.2.1 hz.2.2) hd (by rw [iI_cl hz.1 (by omega)]; exact kk C H locs ls hK hP hD hS hl)
theorem vv_iast (hw : cx_w X) {a N : Nat} {cA : ClassId} {g : Nat → Int} {z v : Int} (hd : decode M.1 pc = .ok (.iastore, 1)) (q0 t0 : Nat) (ha : ws[q0]? = some (a, .inl (cA, N, .inl (fun j => iI (g j))))) (ht : tys[t0]? = some (cA, .int)) (hz : 0 ≤ z ∧ z < (N : Int) ∧ N < 2147483648) (kk : VV X M Q k n tys (ws.set q0 (a, .inl (cA, N, .inl (fun j => iI (va_up g z.toNat v j))))) pl lv st (pc + 1)) : VV X M Q k n tys ws pl lv (.int (iI v) :: .int (iI z) :: .ref a :: st) pc := fun C H locs ls hK hP hD hS hl =>
  va_iast C.1 C.2.1 hK hP (hD.weaken (fun _ _ _ h => hw _ h)) hS q0 t0 (vv_at ha) ht (iI_in hz.1 hz.2.1 hz.2.2) hd (fun H1 locs1 hP1 hD1 hS1 => by
    have e1 : upd (fun j => iI (g j)) (iI z).toNatClampNeg (iI v) = fun j => iI (va_up g z.toNat v j) := by
      rw [iI_cl hz.1 (by omega)]
      funext j
      by_cases hj : j = z.toNat
      · simp [upd, va_up, hj]
      · simp [upd, va_up, hj]
    rw [e1, vv_sets ha] at hP1
    exact kk C H1 locs1 ls hK hP1 (by rw [← vv_sets ha]; exact hD.set (vv_at ha)) hS1 hl)
theorem vv_alen {a : Nat} {cA : ClassId} {x : vp_A} {ty : FieldType} {v : Int} (hd : decode M.1 pc = .ok (.arraylength, 1)) (q0 t0 : Nat) (ha : ws[q0]? = some (a, .inl (cA, x))) (ht : tys[t0]? = some (cA, ty)) (hv : (x.1 : Int) = v) (kk : VV X M Q k n tys ws pl lv (.int (iI v) :: st) (pc + 1)) : VV X M Q k n tys ws pl lv (.ref a :: st) pc := fun C H locs ls hK hP hD hS hl =>
  va_alen C.1 C.2.1 hK hP q0 t0 (vv_at ha) ht (by rw [← hv, iI_nat]; rfl) hd (kk C H locs ls hK hP hD hS hl)
theorem vv_aald {a N b : Nat} {cA : ClassId} {Cn : String} {f : Nat → Option Nat} {z : Int} (hd : decode M.1 pc = .ok (.aaload, 1)) (q0 t0 : Nat) (ha : ws[q0]? = some (a, .inl (cA, N, .inr (.inr (.inr (.inr f)))))) (ht : tys[t0]? = some (cA, .object Cn)) (hz : 0 ≤ z ∧ z < (N : Int) ∧ N < 2147483648) (hb : f z.toNat = some b) (kk : VV X M Q k n tys ws pl lv (.ref b :: st) (pc + 1)) : VV X M Q k n tys ws pl lv (.int (iI z) :: .ref a :: st) pc := fun C H locs ls hK hP hD hS hl =>
  va_aldq C.1 C.2.1 hK hP q0 t0 (vv_at ha) ht (iI_in hz.1 hz.2.1 hz.2.2) hd (by rw [iI_cl hz.1 (by omega), hb]; exact kk C H locs ls hK hP hD hS hl)

end VV
end
section
/-! Contracts over whole pictures, and calls by them. -/
def cp_Q (sz : Nat) (post : Option Value → Prop) : Array Value → State → Outcome → State → Prop := fun _ st oc t => (∃ v, oc = .returned v ∧ post v) ∧ va_F (fun q => sz ≤ q) st t
/-- a method that only reads: it answers v with 'post v', nothing old changes -/
def CP (l : Launch) (y : MethodName) (b : ByteArray) (nL : Nat) (rt : Option FieldType) (rm : Room) (av : List Value) (D : va_G) (tys : List (ClassId × FieldType)) (ws : va_W) (post : Option Value → Prop) : Prop :=
  ∀ sz : Nat, Met l y [.code y b nL rt] rm (va_Pc av (fun U => U.heap.size = sz ∧ tb_ok U ∧ va_P D classes ws U.heap ∧ va_K D classes tys U ∧ va_D (fun _ => True) ws)) (cp_Q sz post) rm.cells rm.slots (fun q => sz ≤ q)
def cm_B (D : va_G) (ws : va_W) (sz : Nat) (post : Option Value → va_W → va_W → List (ClassId × FieldType) → Prop) (v : Option Value) (t : State) : Prop :=
  ∃ (w1 p1 : va_W) (t1 : List (ClassId × FieldType)), post v w1 p1 t1 ∧ va_P D classes (w1 ++ p1) t.heap ∧ va_D (va_A ws sz) (w1 ++ p1) ∧ va_K D classes t1 t
def cm_Q (D : va_G) (ws : va_W) (sz : Nat) (post : Option Value → va_W → va_W → List (ClassId × FieldType) → Prop) : Array Value → State → Outcome → State → Prop := fun _ st oc t =>
  (∃ v : Option Value, oc = .returned v ∧ cm_B D ws sz post v t) ∧ va_F (va_A ws sz) st t
/-- a method that writes: from the picture ws it comes to a picture w1 ++ p1, with the arrays' classes t1, 'post v w1 p1 t1' -/
def CM (l : Launch) (y : MethodName) (b : ByteArray) (nL : Nat) (rt : Option FieldType) (rm : Room) (av : List Value) (D : va_G) (tys : List (ClassId × FieldType)) (ws : va_W) (post : Option Value → va_W → va_W → List (ClassId × FieldType) → Prop) : Prop :=
  ∀ sz : Nat, Met l y [.code y b nL rt] rm (va_Pc av (fun U => U.heap.size = sz ∧ tb_ok U ∧ va_P D classes ws U.heap ∧ va_K D classes tys U ∧ va_D (fun _ => True) ws)) (cm_Q D ws sz post) rm.cells rm.slots (va_A ws sz)
theorem cm_blind {av : List Value} {D : va_G} {tys : List (ClassId × FieldType)} {ws : va_W} {sz : Nat} : FrameBlind (va_Pc av (fun U => U.heap.size = sz ∧ tb_ok U ∧ va_P D classes ws U.heap ∧ va_K D classes tys U ∧ va_D (fun _ => True) ws)) := fun a U g mk q => by
  obtain ⟨q0, qz, q1, q2, q3, q4⟩ := q
  exact ⟨q0, qz, tb_same (s := U) (U := U.calling g mk a) rfl q1, q2, va_K.moved (u := U) (U := U.calling g mk a) (Vm.Alike.refl U.vm) q3, q4⟩
/-- locals at the entry -/
def lo_args : List Value → List (Option Value)
  | [] => []
  | v :: vs => if v.category = 2 then some v :: none :: lo_args vs else some v :: lo_args vs
theorem lo_args_sub : ∀ (vs : List Value) (j i : Nat) (v : Value), (lo_args vs)[i]? = some (some v) → (j + i, v) ∈ lv_args j vs
  | [], j, i, v, h => by simp [lo_args] at h
  | u :: vs, j, i, v, h => by
    unfold lo_args at h
    by_cases hc : u.category = 2
    · rw [if_pos hc] at h
      cases i with
      | zero =>
        have e1 : u = v := Option.some.inj (Option.some.inj h)
        subst e1
        exact List.mem_cons_self
      | succ i =>
        cases i with
        | zero => cases h
        | succ i =>
          have h2 := lo_args_sub vs (j + 2) i v h
          show (j + (i + 1 + 1), v) ∈ (j, u) :: lv_args (if u.category = 2 then j + 2 else j + 1) vs
          rw [if_pos hc, show j + (i + 1 + 1) = j + 2 + i by omega]
          exact List.mem_cons_of_mem _ h2
    · rw [if_neg hc] at h
      cases i with
      | zero =>
        have e1 : u = v := Option.some.inj (Option.some.inj h)
        subst e1
        exact List.mem_cons_self
      | succ i =>
        have h2 := lo_args_sub vs (j + 1) i v h
        show (j + (i + 1), v) ∈ (j, u) :: lv_args (if u.category = 2 then j + 2 else j + 1) vs
        rw [if_neg hc, show j + (i + 1) = j + 1 + i by omega]
        exact List.mem_cons_of_mem _ h2
def lo_pad (lv : List (Option Value)) (nL : Nat) : List (Option Value) := lv ++ List.replicate (nL - lv.length) none
theorem lo_entry (vs : List Value) {nL : Nat} (h : (lg_sl vs).length ≤ nL) : lo_has ((lg_sl vs ++ List.replicate (nL - (lg_sl vs).length) Slot.unset).toArray) nL (lo_pad (lo_args vs) nL) := by
  have h0 := lv_entry vs h
  refine ⟨h0.1, h0.2.1, fun i v hi => ?_⟩
  refine h0.2.2 (i, v) ?_
  have h1 : (lo_args vs)[i]? = some (some v) := by
    unfold lo_pad at hi
    by_cases hl : i < (lo_args vs).length
    · rw [List.getElem?_append_left hl] at hi
      exact hi
    · rw [List.getElem?_append_right (by omega), List.getElem?_replicate] at hi
      split at hi
      · cases hi
      · cases hi
  have h2 := lo_args_sub vs 0 i v h1
  rw [Nat.zero_add] at h2
  exact h2
def cq (X : cx_T) (ws : va_W) (sz : Nat) (post : Option Value → va_W → va_W → List (ClassId × FieldType) → Prop) (rm : Room) : State → Prop := MQ (cx_b X) (cm_Q (cx_D X) ws sz post) (cx_a X) (cx_s X) rm.cells rm.slots (va_A ws sz)
def cr (X : cx_T) (sz : Nat) (post : Option Value → Prop) (rm : Room) : State → Prop := MQ (cx_b X) (cp_Q sz post) (cx_a X) (cx_s X) rm.cells rm.slots (fun q => sz ≤ q)
theorem cm_of {l : Launch} {y : MethodName} {b : ByteArray} {nL : Nat} {rt : Option FieldType} {rm : Room} {av : List Value} {D : va_G} {tys : List (ClassId × FieldType)} {ws pl : va_W} {post : Option Value → va_W → va_W → List (ClassId × FieldType) → Prop}
    (hy : plainName y.cls = true) (hav : (lg_sl av).length ≤ nL)
    (body : ∀ (X : cx_T) (sz : Nat), cx_l X = l → (cx_M X).sig.returnType = rt → (cx_M X).name = y.name → cx_D X = D → cx_A X = va_A (ws ++ pl) sz → cx_w X → VV X (b, nL, y.cls, rm) (cq X (ws ++ pl) sz post rm) 0 0 tys ws pl (lo_pad (lo_args av) nL) [] 0) :
    CM l y b nL rt rm av D tys (ws ++ pl) post := by
  intro sz
  refine Met.ofW (cc := b) (maxL := nL) (ret := rt) hy rfl ?_
  intro p e s m args below meth c s₁ B hml hv
  obtain ⟨rfl, hsz, hTB, hP, hK, hD0⟩ := hv
  subst hsz
  rw [lg_entry_eq]
  exact body (p, l, e, s, m, av.toArray, below, meth, c, D, va_A (ws ++ pl) s.heap.size, va_A (ws ++ pl) s.heap.size) s.heap.size rfl B.returns (name_of_methodNamed B.named B.method).1 rfl rfl (fun _ h => h)
    ⟨B.exec, B.bytes, hml, findClass_of_methodNamed B.named, hTB, fun q h => ⟨Or.inr h, Or.inr h⟩, B.notSynchronized⟩ s.heap [] _ hK hP hD0.self va_S.rf (lo_entry av hav)
theorem cp_of {l : Launch} {y : MethodName} {b : ByteArray} {nL : Nat} {rt : Option FieldType} {rm : Room} {av : List Value} {D : va_G} {tys : List (ClassId × FieldType)} {ws pl : va_W} {post : Option Value → Prop}
    (hy : plainName y.cls = true) (hav : (lg_sl av).length ≤ nL)
    (body : ∀ (X : cx_T) (sz : Nat), cx_l X = l → (cx_M X).sig.returnType = rt → cx_D X = D → cx_A X = (fun q => sz ≤ q) → VV X (b, nL, y.cls, rm) (cr X sz post rm) 0 0 tys ws pl (lo_pad (lo_args av) nL) [] 0) :
    CP l y b nL rt rm av D tys (ws ++ pl) post := by
  intro sz
  refine Met.ofW (cc := b) (maxL := nL) (ret := rt) hy rfl ?_
  intro p e s m args below meth c s₁ B hml hv
  obtain ⟨rfl, hsz, hTB, hP, hK, hD0⟩ := hv
  subst hsz
  rw [lg_entry_eq]
  exact body (p, l, e, s, m, av.toArray, below, meth, c, D, (fun q => s.heap.size ≤ q), fun _ => True) s.heap.size rfl B.returns rfl rfl
    ⟨B.exec, B.bytes, hml, findClass_of_methodNamed B.named, hTB, fun q h => ⟨h, trivial⟩, B.notSynchronized⟩ s.heap [] _ hK hP hD0 va_S.rf (lo_entry av hav)
section RET
variable {X : cx_T} {M : ms_T} {k n : Nat} {tys : List (ClassId × FieldType)} {ws pl ws0 : va_W} {lv : List (Option Value)} {pc sz : Nat} {rm : Room} {post : Option Value → va_W → va_W → List (ClassId × FieldType) → Prop} {pst : Option Value → Prop}
theorem rt_Q {H : Heap} {locs : List Loc} {v : Option Value} (hA : cx_A X = va_A ws0 sz) (hw : cx_w X) (hp : post v ws pl tys) (hK : va_K (cx_D X) classes tys (cx_s X)) (hP : va_P (cx_D X) classes (ws ++ pl) H) (hD : va_D (cx_B X) (ws ++ pl)) (hS : va_S (cx_A X) (cx_s X).heap H locs) : ∀ t : State, t.heap = H → (cx_s X).WarmedH t.vm → cm_Q (cx_D X) ws0 sz post (cx_a X) (cx_s X) (.returned v) t := fun t ht hW =>
  ⟨⟨v, rfl, ws, pl, tys, hp, by rw [ht]; exact hP, by rw [← hA]; exact hD.weaken (fun _ _ _ h => hw _ h), va_K.moved hW.alike hK⟩, by rw [← hA]; exact hS.F ht⟩
theorem rp_Q {H : Heap} {locs : List Loc} {v : Option Value} (hA : cx_A X = (fun q => sz ≤ q)) (hp : pst v) (hS : va_S (cx_A X) (cx_s X).heap H locs) : ∀ t : State, t.heap = H → (cx_s X).WarmedH t.vm → cp_Q sz pst (cx_a X) (cx_s X) (.returned v) t := fun t ht _ =>
  ⟨⟨v, rfl, hp⟩, by rw [← hA]; exact hS.F ht⟩
theorem vv_iret {x : Int32} (hA : cx_A X = va_A ws0 sz) (hw : cx_w X) (hr : (cx_M X).sig.returnType = some .int) (hd : decode M.1 pc = .ok (.ireturn, 1)) (hk : k ≤ rm.cells) (hn : n ≤ rm.slots) (hp : post (some (.int x)) ws pl tys) : VV X M (cq X ws0 sz post rm) k n tys ws pl lv [.int x] pc := fun C H locs ls hK hP hD hS hl =>
  W.widen hk hn (W.iret (v := x) C.1 C.2.1 hr (rt_Q hA hw hp hK hP hD hS) (by rw [← hA]; exact hS.2.2) hd C.2.2.2.2.2.2)
theorem vv_zret {x : Int32} {ty : FieldType} (hA : cx_A X = va_A ws0 sz) (hw : cx_w X) (hr : (cx_M X).sig.returnType = some ty) (hnr : narrow ty (.int x) = .int x) (hd : decode M.1 pc = .ok (.ireturn, 1)) (hk : k ≤ rm.cells) (hn : n ≤ rm.slots) (hp : post (some (.int x)) ws pl tys) : VV X M (cq X ws0 sz post rm) k n tys ws pl lv [.int x] pc := fun C H locs ls hK hP hD hS hl =>
  W.widen hk hn (W.zret (v := x) C.1 C.2.1 hr hnr (rt_Q hA hw hp hK hP hD hS) (by rw [← hA]; exact hS.2.2) hd C.2.2.2.2.2.2)
theorem vv_lret {x : Int64} (hA : cx_A X = va_A ws0 sz) (hw : cx_w X) (hr : (cx_M X).sig.returnType = some .long) (hd : decode M.1 pc = .ok (.lreturn, 1)) (hk : k ≤ rm.cells) (hn : n ≤ rm.slots) (hp : post (some (.long x)) ws pl tys) : VV X M (cq X ws0 sz post rm) k n tys ws pl lv [.long x] pc := fun C H locs ls hK hP hD hS hl =>
  W.widen hk hn (W.lret (v := x) C.1 C.2.1 hr (rt_Q hA hw hp hK hP hD hS) (by rw [← hA]; exact hS.2.2) hd C.2.2.2.2.2.2)
theorem vv_vret (hA : cx_A X = va_A ws0 sz) (hw : cx_w X) (hr : (cx_M X).sig.returnType = none) (hd : decode M.1 pc = .ok (.return_, 1)) (hk : k ≤ rm.cells) (hn : n ≤ rm.slots) (hp : post none ws pl tys) : VV X M (cq X ws0 sz post rm) k n tys ws pl lv [] pc := fun C H locs ls hK hP hD hS hl =>
  W.widen hk hn (W.vret C.1 C.2.1 hr (rt_Q hA hw hp hK hP hD hS) (by rw [← hA]; exact hS.2.2) hd C.2.2.2.2.2.2)
theorem vp_iret {x : Int32} (hA : cx_A X = (fun q => sz ≤ q)) (hr : (cx_M X).sig.returnType = some .int) (hd : decode M.1 pc = .ok (.ireturn, 1)) (hk : k ≤ rm.cells) (hn : n ≤ rm.slots) (hp : pst (some (.int x))) : VV X M (cr X sz pst rm) k n tys ws pl lv [.int x] pc := fun C H locs ls hK hP hD hS hl =>
  W.widen hk hn (W.iret (v := x) C.1 C.2.1 hr (rp_Q hA hp hS) (by have h9 := hS.2.2; rw [hA] at h9; exact h9) hd C.2.2.2.2.2.2)
theorem vp_zret {x : Int32} {ty : FieldType} (hA : cx_A X = (fun q => sz ≤ q)) (hr : (cx_M X).sig.returnType = some ty) (hnr : narrow ty (.int x) = .int x) (hd : decode M.1 pc = .ok (.ireturn, 1)) (hk : k ≤ rm.cells) (hn : n ≤ rm.slots) (hp : pst (some (.int x))) : VV X M (cr X sz pst rm) k n tys ws pl lv [.int x] pc := fun C H locs ls hK hP hD hS hl =>
  W.widen hk hn (W.zret (v := x) C.1 C.2.1 hr hnr (rp_Q hA hp hS) (by have h9 := hS.2.2; rw [hA] at h9; exact h9) hd C.2.2.2.2.2.2)
theorem vp_lret {x : Int64} (hA : cx_A X = (fun q => sz ≤ q)) (hr : (cx_M X).sig.returnType = some .long) (hd : decode M.1 pc = .ok (.lreturn, 1)) (hk : k ≤ rm.cells) (hn : n ≤ rm.slots) (hp : pst (some (.long x))) : VV X M (cr X sz pst rm) k n tys ws pl lv [.long x] pc := fun C H locs ls hK hP hD hS hl =>
  W.widen hk hn (W.lret (v := x) C.1 C.2.1 hr (rp_Q hA hp hS) (by have h9 := hS.2.2; rw [hA] at h9; exact h9) hd C.2.2.2.2.2.2)
theorem vp_aret {a : Nat} {rt : FieldType} (hA : cx_A X = (fun q => sz ≤ q)) (hr : (cx_M X).sig.returnType = some rt) (hrt : (∃ n, rt = .object n) ∨ ∃ t, rt = .array t) (hd : decode M.1 pc = .ok (.areturn, 1)) (hk : k ≤ rm.cells) (hn : n ≤ rm.slots) (hp : pst (some (.ref a))) : VV X M (cr X sz pst rm) k n tys ws pl lv [.ref a] pc := fun C H locs ls hK hP hD hS hl =>
  W.widen hk hn (W.aret (v := .ref a) C.1 C.2.1 hr hrt (Or.inr ⟨a, rfl⟩) (rp_Q hA hp hS) (by have h9 := hS.2.2; rw [hA] at h9; exact h9) hd C.2.2.2.2.2.2)
theorem vp_vret (hA : cx_A X = (fun q => sz ≤ q)) (hr : (cx_M X).sig.returnType = none) (hd : decode M.1 pc = .ok (.return_, 1)) (hk : k ≤ rm.cells) (hn : n ≤ rm.slots) (hp : pst none) : VV X M (cr X sz pst rm) k n tys ws pl lv [] pc := fun C H locs ls hK hP hD hS hl =>
  W.widen hk hn (W.vret C.1 C.2.1 hr (rp_Q hA hp hS) (by have h9 := hS.2.2; rw [hA] at h9; exact h9) hd C.2.2.2.2.2.2)
end RET

/-! ### how a call is linked -/
def lk_V (own : String) (idx : Nat) (y : MethodName) (b : ByteArray) (nL : Nat) (rt : Option FieldType) (np : Nat) : Prop :=
  (Cond.methodLink own idx y ∈ tb_l ∨ ∃ host, Cond.methodLinkNest own idx y host ∈ tb_l) ∧ (Cond.instanceMethod y ∈ tb_l ∧ Cond.selects y.cls y y ∈ tb_l) ∧ Cond.initialized y.cls ∈ tb_l ∧ Cond.code y b nL rt ∈ tb_l ∧ (y.cls ≠ "java/lang/invoke/MethodHandle" ∧ y.cls ≠ "java/lang/invoke/VarHandle") ∧ (parseMethodDescriptor y.desc).map (fun d => d.parameters.length) = some np
def lk_S (own : String) (idx : Nat) (y : MethodName) (b : ByteArray) (nL : Nat) (rt : Option FieldType) (np : Nat) : Prop :=
  (Cond.methodLink own idx y ∈ tb_l ∨ ∃ host, Cond.methodLinkNest own idx y host ∈ tb_l) ∧ Cond.static y ∈ tb_l ∧ Cond.initialized y.cls ∈ tb_l ∧ Cond.code y b nL rt ∈ tb_l ∧ (y.cls ≠ "java/lang/invoke/MethodHandle" ∧ y.cls ≠ "java/lang/invoke/VarHandle") ∧ (parseMethodDescriptor y.desc).map (fun d => d.parameters.length) = some np
def lk_I (own : String) (idx : Nat) (y : MethodName) (b : ByteArray) (nL : Nat) (np : Nat) : Prop :=
  (Cond.methodLink own idx y ∈ tb_l ∨ ∃ host, Cond.methodLinkNest own idx y host ∈ tb_l) ∧ (Cond.instanceMethod y ∈ tb_l ∧ y.name = "<init>") ∧ Cond.initialized y.cls ∈ tb_l ∧ Cond.code y b nL none ∈ tb_l ∧ (y.cls ≠ "java/lang/invoke/MethodHandle" ∧ y.cls ≠ "java/lang/invoke/VarHandle") ∧ (parseMethodDescriptor y.desc).map (fun d => d.parameters.length) = some np
/-- the room that a callee wants -/
def rm_ok (R rm : Room) (nL k n : Nat) (rest : List Value) : Prop := (rm.frames + 1 ≤ R.frames ∧ 8 + (nL + 11) + rm.locals ≤ R.locals) ∧ (k + rm.cells ≤ R.cells ∧ n + rm.slots ≤ R.slots) ∧ (rest.map fun v => v.category).sum ≤ 8
theorem lk_np {y : MethodName} {np : Nat} (h : (parseMethodDescriptor y.desc).map (fun d => d.parameters.length) = some np) : ∀ sig, parseMethodDescriptor y.desc = some sig → np = sig.parameters.length := fun sig hs => by
  rw [hs] at h
  exact (Option.some.inj h).symm
section RUN
variable {X : cx_T} {M : ms_T} {k n : Nat} {pc idx nL a : Nat} {rm : Room} {y : MethodName} {b : ByteArray} {rt : Option FieldType} {As rest : List Value} {H : Heap} {locs : List Loc} {ls : Array Slot} {Pc : Array Value → State → Prop} {Qc : Array Value → State → Outcome → State → Prop} {free : Addr → Prop}
theorem rn_ws (C : cx_ok X M) {w0 : Cond} (h : w0 ∈ tb_l) : ∀ w ∈ [w0], ∀ (a' : Array Value) (U : State), (cx_s X).WarmedH U.vm → w.before a' U = true := fun w hw a' U hW => by
  rw [List.mem_singleton] at hw
  subst hw
  exact tb_moved hW C.2.2.2.2.1 w h a'
theorem rn_V (C : cx_ok X M) (hL : lk_V M.2.2.1 idx y b nL rt As.length) (hM : Met (cx_l X) y [.code y b nL rt] rm Pc Qc rm.cells rm.slots free) (hbl : FrameBlind Pc) (hrc : ∃ cell : Cell, H[a]? = some cell ∧ cell.vm.isStatics = false ∧ (cx_s X).vm.findClass y.cls = some cell.cls)
    (hPc : ∀ U : State, U.heap = H → (cx_s X).WarmedH U.vm → Pc (Value.ref a :: As).toArray U) (hls : ls.size = M.2.1) (hR : rm_ok M.2.2.2 rm nL k n rest) (hd : decode M.1 pc = .ok (.invokevirtual idx, 3)) :
    va_Run (cx_p X) (cx_l X) (cx_e X) M.2.2.2 (cx_s X) (cx_m X) (cx_a X) (cx_b X) (cx_M X) (cx_c X) H locs k n rm.cells rm.slots (F0 (cx_m X) pc ls (As.reverse ++ .ref a :: rest)) rest (Qc (Value.ref a :: As).toArray) free := by
  obtain ⟨h1, ⟨h2, h3⟩, h4, h5, h6, h7⟩ := hL
  have hts : ∀ w ∈ tb_l, w.before (cx_a X) (cx_s X) = true := fun w hw => C.2.2.2.2.1 w hw _
  rcases h1 with h1 | ⟨host, h1⟩
  · exact va_runV (C := y.cls) (As := As) (rest := rest) (bytes := b) (maxL := nL) (ret := rt) (n := As.length) ⟨C.1, C.2.1, C.2.2.1, C.2.2.2.1, hts⟩ hM
      ⟨⟨rfl, rfl, hR.1.1, hR.1.2, rn_ws C h5, List.mem_singleton.mpr rfl, hts _ h5, hts _ h4, h6, lk_np h7, hts _ h1⟩, hts _ h2, hts _ h3⟩ ⟨hbl, hrc, hPc⟩ rfl rfl hls rfl (lv_room hR.2.2) hd hR.2.1
  · exact va_runVN (C := y.cls) (As := As) (rest := rest) (bytes := b) (maxL := nL) (ret := rt) (n := As.length) ⟨C.1, C.2.1, C.2.2.1, C.2.2.2.1, hts⟩ hM
      ⟨⟨⟨rfl, rfl, hR.1.1, hR.1.2, rn_ws C h5, List.mem_singleton.mpr rfl⟩, hts _ h5, hts _ h4, h6, lk_np h7, hts _ h1⟩, hts _ h2, hts _ h3⟩ ⟨hbl, hrc, hPc⟩ rfl rfl hls rfl (lv_room hR.2.2) hd hR.2.1
theorem rn_S (C : cx_ok X M) (hL : lk_S M.2.2.1 idx y b nL rt As.length) (hM : Met (cx_l X) y [.code y b nL rt] rm Pc Qc rm.cells rm.slots free) (hbl : FrameBlind Pc)
    (hPc : ∀ U : State, U.heap = H → (cx_s X).WarmedH U.vm → Pc As.toArray U) (hls : ls.size = M.2.1) (hR : rm_ok M.2.2.2 rm nL k n rest) (hd : decode M.1 pc = .ok (.invokestatic idx, 3)) :
    va_Run (cx_p X) (cx_l X) (cx_e X) M.2.2.2 (cx_s X) (cx_m X) (cx_a X) (cx_b X) (cx_M X) (cx_c X) H locs k n rm.cells rm.slots (F0 (cx_m X) pc ls (As.reverse ++ rest)) rest (Qc As.toArray) free := by
  obtain ⟨h1, h2, h4, h5, h6, h7⟩ := hL
  have hts : ∀ w ∈ tb_l, w.before (cx_a X) (cx_s X) = true := fun w hw => C.2.2.2.2.1 w hw _
  rcases h1 with h1 | ⟨host, h1⟩
  · exact va_runS (As := As) (rest := rest) (bytes := b) (maxL := nL) (ret := rt) (n := As.length) ⟨C.1, C.2.1, C.2.2.1, C.2.2.2.1, hts⟩ hM
      ⟨⟨rfl, rfl, hR.1.1, hR.1.2, rn_ws C h5, List.mem_singleton.mpr rfl, hts _ h5, hts _ h4, h6, lk_np h7, hts _ h1⟩, hts _ h2⟩ ⟨hbl, hPc⟩ rfl rfl hls rfl (lv_room hR.2.2) hd hR.2.1
  · exact va_runSN (As := As) (rest := rest) (bytes := b) (maxL := nL) (ret := rt) (n := As.length) ⟨C.1, C.2.1, C.2.2.1, C.2.2.2.1, hts⟩ hM
      ⟨⟨⟨rfl, rfl, hR.1.1, hR.1.2, rn_ws C h5, List.mem_singleton.mpr rfl⟩, hts _ h5, hts _ h4, h6, lk_np h7, hts _ h1⟩, hts _ h2, trivial⟩ ⟨hbl, hPc⟩ rfl rfl hls rfl (lv_room hR.2.2) hd hR.2.1
theorem rn_I (C : cx_ok X M) (hL : lk_I M.2.2.1 idx y b nL As.length) (hM : Met (cx_l X) y [.code y b nL none] rm Pc Qc rm.cells rm.slots free) (hbl : FrameBlind Pc)
    (hPc : ∀ U : State, U.heap = H → (cx_s X).WarmedH U.vm → Pc (Value.ref a :: As).toArray U) (hls : ls.size = M.2.1) (hR : rm_ok M.2.2.2 rm nL k n rest) (hd : decode M.1 pc = .ok (.invokespecial idx, 3)) :
    va_Run (cx_p X) (cx_l X) (cx_e X) M.2.2.2 (cx_s X) (cx_m X) (cx_a X) (cx_b X) (cx_M X) (cx_c X) H locs k n rm.cells rm.slots (F0 (cx_m X) pc ls (As.reverse ++ .ref a :: rest)) rest (Qc (Value.ref a :: As).toArray) free := by
  obtain ⟨h1, ⟨h2, h3⟩, h4, h5, h6, h7⟩ := hL
  have hts : ∀ w ∈ tb_l, w.before (cx_a X) (cx_s X) = true := fun w hw => C.2.2.2.2.1 w hw _
  rcases h1 with h1 | ⟨host, h1⟩
  · exact va_runI (As := As) (rest := rest) (bytes := b) (maxL := nL) (n := As.length) ⟨C.1, C.2.1, C.2.2.1, C.2.2.2.1, hts⟩ hM
      ⟨⟨rfl, rfl, hR.1.1, hR.1.2, rn_ws C h5, List.mem_singleton.mpr rfl, hts _ h5, hts _ h4, h6, lk_np h7, hts _ h1⟩, h3, hts _ h2⟩ ⟨hbl, hPc⟩ rfl rfl hls rfl (lv_room hR.2.2) hd hR.2.1
  · exact va_runIN (As := As) (rest := rest) (bytes := b) (maxL := nL) (n := As.length) ⟨C.1, C.2.1, C.2.2.1, C.2.2.2.1, hts⟩ hM
      ⟨⟨⟨rfl, rfl, hR.1.1, hR.1.2, rn_ws C h5, List.mem_singleton.mpr rfl⟩, hts _ h5, hts _ h4, h6, lk_np h7, hts _ h1⟩, h3, hts _ h2⟩ ⟨hbl, hPc⟩ rfl rfl hls rfl (lv_room hR.2.2) hd hR.2.1
end RUN
/-! ### behind a call -/
section BEH
variable {p : Program} {l : Launch} {e : Env} {R : Room} {s : State} {m : MethodId} {args : Array Value} {below : List Frame} {meth : Method} {c : Code} {H : Heap} {locs : List Loc} {cells slots : Nat} {Q : State → Prop}
variable {pc : Nat} {ls : Array Slot} {rest st0 : List Value} {A0 A1 : Nat → Prop} {H0 : Heap} {mc ms : Nat} {free : Addr → Prop}
theorem bh_any {B : Option Value → State → Prop} (hr : va_Run p l e R s m args below meth c H locs cells slots mc ms (F0 m pc ls st0) rest (fun st oc t => (∃ v, oc = .returned v ∧ B v t) ∧ va_F A1 st t) free) (hS : va_S A0 H0 H locs) (hA : ∀ q, q < H.size → A1 q → A0 q) (hf : ∀ q, free q → A0 q)
    (kk : ∀ (v : Option Value) (t : State) (H1 : Heap) (locs1 : List Loc), t.heap = H1 → s.vm.Alike t.vm → B v t → H.size ≤ H1.size → (∀ q : Nat, q < H.size → ¬ A1 q → H1[q]? = H[q]?) → va_S A0 H0 H1 locs1 → W p l e R s m args below meth c H1 locs1 (cells + mc) (slots + ms) Q (F0 m (pc + 3) ls (v.toList ++ rest))) : W p l e R s m args below meth c H locs cells slots Q (F0 m pc ls st0) := by
  intro T hT X
  obtain ⟨v, st₀, t, T', L, h0, X', hL, e1, e2, ⟨⟨v', hv, hb⟩, hz, hk⟩, st⟩ := hr T hT X
  cases hv
  rw [h0] at hz hk
  obtain ⟨t2, a1, b1⟩ := kk v t T'.heap (locs ++ L) e1.symm (by rw [← e2]; exact X'.warmed.alike) hb (by rw [e1]; exact hz) (fun q h1 h2 => by rw [e1]; exact hk q h1 h2)
    ⟨Nat.le_trans hS.1 (by rw [e1]; exact hz), fun q h1 h2 => by rw [e1, hk q (Nat.lt_of_lt_of_le h1 hS.1) (fun z => h2 (hA q (Nat.lt_of_lt_of_le h1 hS.1) z))]; exact hS.2.1 q h1 h2, fun q hq => by
      rcases List.mem_append.mp hq with h | h
      · exact hS.2.2 q h
      · exact hf _ (hL q h)⟩ T' rfl X'
  exact ⟨t2, st t2 a1, b1⟩
end BEH
theorem va_pre {D : va_G} {cl : List vw_C} {w1 w2 : va_W} {H : Heap} (h : va_P D cl (w1 ++ w2) H) : va_P D cl w1 H := fun j q hj => h j q (by rw [List.getElem?_append_left (List.getElem?_eq_some_iff.mp hj).1]; exact hj)
theorem va_dre {A : Nat → Prop} {w1 w2 : va_W} (h : va_D A (w1 ++ w2)) : va_D A w1 := ⟨fun i j x y hx hy hxy => h.1 i j x y (by rw [List.getElem?_append_left (List.getElem?_eq_some_iff.mp hx).1]; exact hx) (by rw [List.getElem?_append_left (List.getElem?_eq_some_iff.mp hy).1]; exact hy) hxy, fun j q hj => h.2 j q (by rw [List.getElem?_append_left (List.getElem?_eq_some_iff.mp hj).1]; exact hj)⟩
end
section
set_option maxRecDepth 100000 in
theorem fl_TB_25 : fl_ok "SheetTrees$Tables" 25 4 0 := ⟨R_TB, F_TB, 5, rfl, by decide, i_TB, Or.inl (tb_at 90 rfl rfl), rfl⟩
set_option maxRecDepth 100000 in
theorem fF_TB_25 : fF_ok "SheetTrees$Tables" 25 4 0 (t_TB 0) := ⟨R_TB, F_TB, 5, t_TB, rfl, by decide, i_TB, tb_at 90 rfl rfl, rfl, rfl, t_TB_ok, n_TB, rfl, rfl⟩
set_option maxRecDepth 100000 in
theorem fl_LY_72 : fl_ok "SheetTrees$Layout" 72 4 0 := ⟨R_TB, F_TB, 5, rfl, by decide, i_TB, Or.inr ⟨"SheetTrees", tb_at 91 rfl rfl⟩, rfl⟩
set_option maxRecDepth 100000 in
theorem fl_TB_11 : fl_ok "SheetTrees$Tables" 11 4 1 := ⟨R_TB, F_TB, 5, rfl, by decide, i_TB, Or.inl (tb_at 92 rfl rfl), rfl⟩
set_option maxRecDepth 100000 in
theorem fF_TB_11 : fF_ok "SheetTrees$Tables" 11 4 1 (t_TB 1) := ⟨R_TB, F_TB, 5, t_TB, rfl, by decide, i_TB, tb_at 92 rfl rfl, rfl, rfl, t_TB_ok, n_TB, rfl, rfl⟩
set_option maxRecDepth 100000 in
theorem fl_TB_15 : fl_ok "SheetTrees$Tables" 15 4 2 := ⟨R_TB, F_TB, 5, rfl, by decide, i_TB, Or.inl (tb_at 93 rfl rfl), rfl⟩
set_option maxRecDepth 100000 in
theorem fF_TB_15 : fF_ok "SheetTrees$Tables" 15 4 2 (t_TB 2) := ⟨R_TB, F_TB, 5, t_TB, rfl, by decide, i_TB, tb_at 93 rfl rfl, rfl, rfl, t_TB_ok, n_TB, rfl, rfl⟩
set_option maxRecDepth 100000 in
theorem fl_TB_18 : fl_ok "SheetTrees$Tables" 18 4 3 := ⟨R_TB, F_TB, 5, rfl, by decide, i_TB, Or.inl (tb_at 94 rfl rfl), rfl⟩
set_option maxRecDepth 100000 in
theorem fp_TB_18 : fp_ok "SheetTrees$Tables" 18 4 3 (t_TB 3) := ⟨R_TB, F_TB, 5, t_TB, rfl, by decide, i_TB, Or.inl (tb_at 94 rfl rfl), rfl, rfl, t_TB_ok, n_TB, rfl⟩
set_option maxRecDepth 100000 in
theorem fl_ST_286 : fl_ok "SheetTrees" 286 4 3 := ⟨R_TB, F_TB, 5, rfl, by decide, i_TB, Or.inr ⟨"SheetTrees", tb_at 95 rfl rfl⟩, rfl⟩
set_option maxRecDepth 100000 in
theorem fl_TB_22 : fl_ok "SheetTrees$Tables" 22 4 4 := ⟨R_TB, F_TB, 5, rfl, by decide, i_TB, Or.inl (tb_at 96 rfl rfl), rfl⟩
set_option maxRecDepth 100000 in
theorem fp_TB_22 : fp_ok "SheetTrees$Tables" 22 4 4 (t_TB 4) := ⟨R_TB, F_TB, 5, t_TB, rfl, by decide, i_TB, Or.inl (tb_at 96 rfl rfl), rfl, rfl, t_TB_ok, n_TB, rfl⟩
set_option maxRecDepth 100000 in
theorem fl_LY_31 : fl_ok "SheetTrees$Layout" 31 1 0 := ⟨R_LY, F_LY, 7, rfl, by decide, i_LY, Or.inl (tb_at 115 rfl rfl), rfl⟩
set_option maxRecDepth 100000 in
theorem fF_LY_31 : fF_ok "SheetTrees$Layout" 31 1 0 (t_LY 0) := ⟨R_LY, F_LY, 7, t_LY, rfl, by decide, i_LY, tb_at 115 rfl rfl, rfl, rfl, t_LY_ok, n_LY, rfl, rfl⟩
set_option maxRecDepth 100000 in
theorem fl_LY_9 : fl_ok "SheetTrees$Layout" 9 1 1 := ⟨R_LY, F_LY, 7, rfl, by decide, i_LY, Or.inl (tb_at 116 rfl rfl), rfl⟩
set_option maxRecDepth 100000 in
theorem fF_LY_9 : fF_ok "SheetTrees$Layout" 9 1 1 (t_LY 1) := ⟨R_LY, F_LY, 7, t_LY, rfl, by decide, i_LY, tb_at 116 rfl rfl, rfl, rfl, t_LY_ok, n_LY, rfl, rfl⟩
set_option maxRecDepth 100000 in
theorem fl_ST_272 : fl_ok "SheetTrees" 272 1 1 := ⟨R_LY, F_LY, 7, rfl, by decide, i_LY, Or.inr ⟨"SheetTrees", tb_at 117 rfl rfl⟩, rfl⟩
set_option maxRecDepth 100000 in
theorem fl_LY_15 : fl_ok "SheetTrees$Layout" 15 1 2 := ⟨R_LY, F_LY, 7, rfl, by decide, i_LY, Or.inl (tb_at 118 rfl rfl), rfl⟩
set_option maxRecDepth 100000 in
theorem fF_LY_15 : fF_ok "SheetTrees$Layout" 15 1 2 (t_LY 2) := ⟨R_LY, F_LY, 7, t_LY, rfl, by decide, i_LY, tb_at 118 rfl rfl, rfl, rfl, t_LY_ok, n_LY, rfl, rfl⟩
set_option maxRecDepth 100000 in
theorem fl_LY_18 : fl_ok "SheetTrees$Layout" 18 1 3 := ⟨R_LY, F_LY, 7, rfl, by decide, i_LY, Or.inl (tb_at 119 rfl rfl), rfl⟩
set_option maxRecDepth 100000 in
theorem fp_LY_18 : fp_ok "SheetTrees$Layout" 18 1 3 (t_LY 3) := ⟨R_LY, F_LY, 7, t_LY, rfl, by decide, i_LY, Or.inl (tb_at 119 rfl rfl), rfl, rfl, t_LY_ok, n_LY, rfl⟩
set_option maxRecDepth 100000 in
theorem fl_ST_269 : fl_ok "SheetTrees" 269 1 3 := ⟨R_LY, F_LY, 7, rfl, by decide, i_LY, Or.inr ⟨"SheetTrees", tb_at 120 rfl rfl⟩, rfl⟩
set_option maxRecDepth 100000 in
theorem fl_LY_22 : fl_ok "SheetTrees$Layout" 22 1 4 := ⟨R_LY, F_LY, 7, rfl, by decide, i_LY, Or.inl (tb_at 121 rfl rfl), rfl⟩
set_option maxRecDepth 100000 in
theorem fp_LY_22 : fp_ok "SheetTrees$Layout" 22 1 4 (t_LY 4) := ⟨R_LY, F_LY, 7, t_LY, rfl, by decide, i_LY, Or.inl (tb_at 121 rfl rfl), rfl, rfl, t_LY_ok, n_LY, rfl⟩
set_option maxRecDepth 100000 in
theorem fl_CS_55 : fl_ok "SheetTrees$CutSheet" 55 1 4 := ⟨R_LY, F_LY, 7, rfl, by decide, i_LY, Or.inr ⟨"SheetTrees", tb_at 122 rfl rfl⟩, rfl⟩
set_option maxRecDepth 100000 in
theorem fl_LY_25 : fl_ok "SheetTrees$Layout" 25 1 5 := ⟨R_LY, F_LY, 7, rfl, by decide, i_LY, Or.inl (tb_at 123 rfl rfl), rfl⟩
set_option maxRecDepth 100000 in
theorem fp_LY_25 : fp_ok "SheetTrees$Layout" 25 1 5 (t_LY 5) := ⟨R_LY, F_LY, 7, t_LY, rfl, by decide, i_LY, Or.inl (tb_at 123 rfl rfl), rfl, rfl, t_LY_ok, n_LY, rfl⟩
set_option maxRecDepth 100000 in
theorem fl_CS_58 : fl_ok "SheetTrees$CutSheet" 58 1 5 := ⟨R_LY, F_LY, 7, rfl, by decide, i_LY, Or.inr ⟨"SheetTrees", tb_at 124 rfl rfl⟩, rfl⟩
set_option maxRecDepth 100000 in
theorem fl_LY_28 : fl_ok "SheetTrees$Layout" 28 1 6 := ⟨R_LY, F_LY, 7, rfl, by decide, i_LY, Or.inl (tb_at 125 rfl rfl), rfl⟩
set_option maxRecDepth 100000 in
theorem fp_LY_28 : fp_ok "SheetTrees$Layout" 28 1 6 (t_LY 6) := ⟨R_LY, F_LY, 7, t_LY, rfl, by decide, i_LY, Or.inl (tb_at 125 rfl rfl), rfl, rfl, t_LY_ok, n_LY, rfl⟩
set_option maxRecDepth 100000 in
theorem fl_CS_59 : fl_ok "SheetTrees$CutSheet" 59 1 6 := ⟨R_LY, F_LY, 7, rfl, by decide, i_LY, Or.inr ⟨"SheetTrees", tb_at 126 rfl rfl⟩, rfl⟩
set_option maxRecDepth 100000 in
theorem fl_SH_7 : fl_ok "SheetTrees$Sheet" 7 3 0 := ⟨R_SH, F_SH, 5, rfl, by decide, i_SH, Or.inl (tb_at 147 rfl rfl), rfl⟩
set_option maxRecDepth 100000 in
theorem fp_SH_7 : fp_ok "SheetTrees$Sheet" 7 3 0 (t_SH 0) := ⟨R_SH, F_SH, 5, t_SH, rfl, by decide, i_SH, Or.inl (tb_at 147 rfl rfl), rfl, rfl, t_SH_ok, n_SH, rfl⟩
set_option maxRecDepth 100000 in
theorem fl_LY_41 : fl_ok "SheetTrees$Layout" 41 3 0 := ⟨R_SH, F_SH, 5, rfl, by decide, i_SH, Or.inr ⟨"SheetTrees", tb_at 148 rfl rfl⟩, rfl⟩
set_option maxRecDepth 100000 in
theorem fp_ST_109 : fp_ok "SheetTrees" 109 3 0 (t_SH 0) := ⟨R_SH, F_SH, 5, t_SH, rfl, by decide, i_SH, Or.inr ⟨"SheetTrees", tb_at 149 rfl rfl⟩, rfl, rfl, t_SH_ok, n_SH, rfl⟩
set_option maxRecDepth 100000 in
theorem fl_SH_13 : fl_ok "SheetTrees$Sheet" 13 3 1 := ⟨R_SH, F_SH, 5, rfl, by decide, i_SH, Or.inl (tb_at 150 rfl rfl), rfl⟩
set_option maxRecDepth 100000 in
theorem fp_SH_13 : fp_ok "SheetTrees$Sheet" 13 3 1 (t_SH 1) := ⟨R_SH, F_SH, 5, t_SH, rfl, by decide, i_SH, Or.inl (tb_at 150 rfl rfl), rfl, rfl, t_SH_ok, n_SH, rfl⟩
set_option maxRecDepth 100000 in
theorem fl_LY_46 : fl_ok "SheetTrees$Layout" 46 3 1 := ⟨R_SH, F_SH, 5, rfl, by decide, i_SH, Or.inr ⟨"SheetTrees", tb_at 151 rfl rfl⟩, rfl⟩
set_option maxRecDepth 100000 in
theorem fp_ST_112 : fp_ok "SheetTrees" 112 3 1 (t_SH 1) := ⟨R_SH, F_SH, 5, t_SH, rfl, by decide, i_SH, Or.inr ⟨"SheetTrees", tb_at 152 rfl rfl⟩, rfl, rfl, t_SH_ok, n_SH, rfl⟩
set_option maxRecDepth 100000 in
theorem fp_SH_16 : fp_ok "SheetTrees$Sheet" 16 3 2 (t_SH 2) := ⟨R_SH, F_SH, 5, t_SH, rfl, by decide, i_SH, Or.inl (tb_at 153 rfl rfl), rfl, rfl, t_SH_ok, n_SH, rfl⟩
set_option maxRecDepth 100000 in
theorem fl_CS_49 : fl_ok "SheetTrees$CutSheet" 49 3 2 := ⟨R_SH, F_SH, 5, rfl, by decide, i_SH, Or.inr ⟨"SheetTrees", tb_at 154 rfl rfl⟩, rfl⟩
set_option maxRecDepth 100000 in
theorem fl_ST_115 : fl_ok "SheetTrees" 115 3 2 := ⟨R_SH, F_SH, 5, rfl, by decide, i_SH, Or.inr ⟨"SheetTrees", tb_at 155 rfl rfl⟩, rfl⟩
set_option maxRecDepth 100000 in
theorem fp_ST_115 : fp_ok "SheetTrees" 115 3 2 (t_SH 2) := ⟨R_SH, F_SH, 5, t_SH, rfl, by decide, i_SH, Or.inr ⟨"SheetTrees", tb_at 155 rfl rfl⟩, rfl, rfl, t_SH_ok, n_SH, rfl⟩
set_option maxRecDepth 100000 in
theorem fp_SH_19 : fp_ok "SheetTrees$Sheet" 19 3 3 (t_SH 3) := ⟨R_SH, F_SH, 5, t_SH, rfl, by decide, i_SH, Or.inl (tb_at 156 rfl rfl), rfl, rfl, t_SH_ok, n_SH, rfl⟩
set_option maxRecDepth 100000 in
theorem fl_ST_118 : fl_ok "SheetTrees" 118 3 3 := ⟨R_SH, F_SH, 5, rfl, by decide, i_SH, Or.inr ⟨"SheetTrees", tb_at 157 rfl rfl⟩, rfl⟩
set_option maxRecDepth 100000 in
theorem fp_ST_118 : fp_ok "SheetTrees" 118 3 3 (t_SH 3) := ⟨R_SH, F_SH, 5, t_SH, rfl, by decide, i_SH, Or.inr ⟨"SheetTrees", tb_at 157 rfl rfl⟩, rfl, rfl, t_SH_ok, n_SH, rfl⟩
set_option maxRecDepth 100000 in
theorem fp_SH_22 : fp_ok "SheetTrees$Sheet" 22 3 4 (t_SH 4) := ⟨R_SH, F_SH, 5, t_SH, rfl, by decide, i_SH, Or.inl (tb_at 158 rfl rfl), rfl, rfl, t_SH_ok, n_SH, rfl⟩
set_option maxRecDepth 100000 in
theorem fl_ST_247 : fl_ok "SheetTrees" 247 3 4 := ⟨R_SH, F_SH, 5, rfl, by decide, i_SH, Or.inr ⟨"SheetTrees", tb_at 159 rfl rfl⟩, rfl⟩
set_option maxRecDepth 100000 in
theorem fp_ST_247 : fp_ok "SheetTrees" 247 3 4 (t_SH 4) := ⟨R_SH, F_SH, 5, t_SH, rfl, by decide, i_SH, Or.inr ⟨"SheetTrees", tb_at 159 rfl rfl⟩, rfl, rfl, t_SH_ok, n_SH, rfl⟩
set_option maxRecDepth 100000 in
theorem fl_PA_7 : fl_ok "SheetTrees$Part" 7 2 0 := ⟨R_PA, F_PA, 5, rfl, by decide, i_PA, Or.inl (tb_at 176 rfl rfl), rfl⟩
set_option maxRecDepth 100000 in
theorem fp_PA_7 : fp_ok "SheetTrees$Part" 7 2 0 (t_PA 0) := ⟨R_PA, F_PA, 5, t_PA, rfl, by decide, i_PA, Or.inl (tb_at 176 rfl rfl), rfl, rfl, t_PA_ok, n_PA, rfl⟩
set_option maxRecDepth 100000 in
theorem fp_ST_125 : fp_ok "SheetTrees" 125 2 0 (t_PA 0) := ⟨R_PA, F_PA, 5, t_PA, rfl, by decide, i_PA, Or.inr ⟨"SheetTrees", tb_at 177 rfl rfl⟩, rfl, rfl, t_PA_ok, n_PA, rfl⟩
set_option maxRecDepth 100000 in
theorem fl_TB_56 : fl_ok "SheetTrees$Tables" 56 2 0 := ⟨R_PA, F_PA, 5, rfl, by decide, i_PA, Or.inr ⟨"SheetTrees", tb_at 178 rfl rfl⟩, rfl⟩
set_option maxRecDepth 100000 in
theorem fl_PA_13 : fl_ok "SheetTrees$Part" 13 2 1 := ⟨R_PA, F_PA, 5, rfl, by decide, i_PA, Or.inl (tb_at 179 rfl rfl), rfl⟩
set_option maxRecDepth 100000 in
theorem fp_PA_13 : fp_ok "SheetTrees$Part" 13 2 1 (t_PA 1) := ⟨R_PA, F_PA, 5, t_PA, rfl, by decide, i_PA, Or.inl (tb_at 179 rfl rfl), rfl, rfl, t_PA_ok, n_PA, rfl⟩
set_option maxRecDepth 100000 in
theorem fp_ST_126 : fp_ok "SheetTrees" 126 2 1 (t_PA 1) := ⟨R_PA, F_PA, 5, t_PA, rfl, by decide, i_PA, Or.inr ⟨"SheetTrees", tb_at 180 rfl rfl⟩, rfl, rfl, t_PA_ok, n_PA, rfl⟩
set_option maxRecDepth 100000 in
theorem fl_TB_61 : fl_ok "SheetTrees$Tables" 61 2 1 := ⟨R_PA, F_PA, 5, rfl, by decide, i_PA, Or.inr ⟨"SheetTrees", tb_at 181 rfl rfl⟩, rfl⟩
set_option maxRecDepth 100000 in
theorem fp_PA_16 : fp_ok "SheetTrees$Part" 16 2 2 (t_PA 2) := ⟨R_PA, F_PA, 5, t_PA, rfl, by decide, i_PA, Or.inl (tb_at 182 rfl rfl), rfl, rfl, t_PA_ok, n_PA, rfl⟩
set_option maxRecDepth 100000 in
theorem fp_ST_127 : fp_ok "SheetTrees" 127 2 2 (t_PA 2) := ⟨R_PA, F_PA, 5, t_PA, rfl, by decide, i_PA, Or.inr ⟨"SheetTrees", tb_at 183 rfl rfl⟩, rfl, rfl, t_PA_ok, n_PA, rfl⟩
set_option maxRecDepth 100000 in
theorem fl_TB_68 : fl_ok "SheetTrees$Tables" 68 2 2 := ⟨R_PA, F_PA, 5, rfl, by decide, i_PA, Or.inr ⟨"SheetTrees", tb_at 184 rfl rfl⟩, rfl⟩
set_option maxRecDepth 100000 in
theorem fp_PA_20 : fp_ok "SheetTrees$Part" 20 2 3 (t_PA 3) := ⟨R_PA, F_PA, 5, t_PA, rfl, by decide, i_PA, Or.inl (tb_at 185 rfl rfl), rfl, rfl, t_PA_ok, n_PA, rfl⟩
set_option maxRecDepth 100000 in
theorem fl_ST_130 : fl_ok "SheetTrees" 130 2 3 := ⟨R_PA, F_PA, 5, rfl, by decide, i_PA, Or.inr ⟨"SheetTrees", tb_at 186 rfl rfl⟩, rfl⟩
set_option maxRecDepth 100000 in
theorem fp_ST_130 : fp_ok "SheetTrees" 130 2 3 (t_PA 3) := ⟨R_PA, F_PA, 5, t_PA, rfl, by decide, i_PA, Or.inr ⟨"SheetTrees", tb_at 186 rfl rfl⟩, rfl, rfl, t_PA_ok, n_PA, rfl⟩
set_option maxRecDepth 100000 in
theorem fp_PA_23 : fp_ok "SheetTrees$Part" 23 2 4 (t_PA 4) := ⟨R_PA, F_PA, 5, t_PA, rfl, by decide, i_PA, Or.inl (tb_at 187 rfl rfl), rfl, rfl, t_PA_ok, n_PA, rfl⟩
set_option maxRecDepth 100000 in
theorem fl_LY_75 : fl_ok "SheetTrees$Layout" 75 2 4 := ⟨R_PA, F_PA, 5, rfl, by decide, i_PA, Or.inr ⟨"SheetTrees", tb_at 188 rfl rfl⟩, rfl⟩
set_option maxRecDepth 100000 in
theorem fl_ST_221 : fl_ok "SheetTrees" 221 2 4 := ⟨R_PA, F_PA, 5, rfl, by decide, i_PA, Or.inr ⟨"SheetTrees", tb_at 189 rfl rfl⟩, rfl⟩
set_option maxRecDepth 100000 in
theorem fp_ST_221 : fp_ok "SheetTrees" 221 2 4 (t_PA 4) := ⟨R_PA, F_PA, 5, t_PA, rfl, by decide, i_PA, Or.inr ⟨"SheetTrees", tb_at 189 rfl rfl⟩, rfl, rfl, t_PA_ok, n_PA, rfl⟩
set_option maxRecDepth 100000 in
theorem fp_CS_7 : fp_ok "SheetTrees$CutSheet" 7 0 0 (t_CS 0) := ⟨R_CS, F_CS, 13, t_CS, rfl, by decide, i_CS, Or.inl (tb_at 206 rfl rfl), rfl, rfl, t_CS_ok, n_CS, rfl⟩
set_option maxRecDepth 100000 in
theorem fl_ST_169 : fl_ok "SheetTrees" 169 0 0 := ⟨R_CS, F_CS, 13, rfl, by decide, i_CS, Or.inr ⟨"SheetTrees", tb_at 207 rfl rfl⟩, rfl⟩
set_option maxRecDepth 100000 in
theorem fp_CS_13 : fp_ok "SheetTrees$CutSheet" 13 0 1 (t_CS 1) := ⟨R_CS, F_CS, 13, t_CS, rfl, by decide, i_CS, Or.inl (tb_at 208 rfl rfl), rfl, rfl, t_CS_ok, n_CS, rfl⟩
set_option maxRecDepth 100000 in
theorem fl_ST_226 : fl_ok "SheetTrees" 226 0 1 := ⟨R_CS, F_CS, 13, rfl, by decide, i_CS, Or.inr ⟨"SheetTrees", tb_at 209 rfl rfl⟩, rfl⟩
set_option maxRecDepth 100000 in
theorem fp_CS_16 : fp_ok "SheetTrees$CutSheet" 16 0 2 (t_CS 2) := ⟨R_CS, F_CS, 13, t_CS, rfl, by decide, i_CS, Or.inl (tb_at 210 rfl rfl), rfl, rfl, t_CS_ok, n_CS, rfl⟩
set_option maxRecDepth 100000 in
theorem fl_ST_227 : fl_ok "SheetTrees" 227 0 2 := ⟨R_CS, F_CS, 13, rfl, by decide, i_CS, Or.inr ⟨"SheetTrees", tb_at 211 rfl rfl⟩, rfl⟩
set_option maxRecDepth 100000 in
theorem fp_CS_19 : fp_ok "SheetTrees$CutSheet" 19 0 3 (t_CS 3) := ⟨R_CS, F_CS, 13, t_CS, rfl, by decide, i_CS, Or.inl (tb_at 212 rfl rfl), rfl, rfl, t_CS_ok, n_CS, rfl⟩
set_option maxRecDepth 100000 in
theorem fl_ST_179 : fl_ok "SheetTrees" 179 0 3 := ⟨R_CS, F_CS, 13, rfl, by decide, i_CS, Or.inr ⟨"SheetTrees", tb_at 213 rfl rfl⟩, rfl⟩
set_option maxRecDepth 100000 in
theorem fp_CS_22 : fp_ok "SheetTrees$CutSheet" 22 0 4 (t_CS 4) := ⟨R_CS, F_CS, 13, t_CS, rfl, by decide, i_CS, Or.inl (tb_at 214 rfl rfl), rfl, rfl, t_CS_ok, n_CS, rfl⟩
set_option maxRecDepth 100000 in
theorem fl_ST_176 : fl_ok "SheetTrees" 176 0 4 := ⟨R_CS, F_CS, 13, rfl, by decide, i_CS, Or.inr ⟨"SheetTrees", tb_at 215 rfl rfl⟩, rfl⟩
set_option maxRecDepth 100000 in
theorem fp_CS_25 : fp_ok "SheetTrees$CutSheet" 25 0 5 (t_CS 5) := ⟨R_CS, F_CS, 13, t_CS, rfl, by decide, i_CS, Or.inl (tb_at 216 rfl rfl), rfl, rfl, t_CS_ok, n_CS, rfl⟩
set_option maxRecDepth 100000 in
theorem fl_ST_182 : fl_ok "SheetTrees" 182 0 5 := ⟨R_CS, F_CS, 13, rfl, by decide, i_CS, Or.inr ⟨"SheetTrees", tb_at 217 rfl rfl⟩, rfl⟩
set_option maxRecDepth 100000 in
theorem fp_CS_28 : fp_ok "SheetTrees$CutSheet" 28 0 6 (t_CS 6) := ⟨R_CS, F_CS, 13, t_CS, rfl, by decide, i_CS, Or.inl (tb_at 218 rfl rfl), rfl, rfl, t_CS_ok, n_CS, rfl⟩
set_option maxRecDepth 100000 in
theorem fl_ST_289 : fl_ok "SheetTrees" 289 0 6 := ⟨R_CS, F_CS, 13, rfl, by decide, i_CS, Or.inr ⟨"SheetTrees", tb_at 219 rfl rfl⟩, rfl⟩
set_option maxRecDepth 100000 in
theorem fp_CS_31 : fp_ok "SheetTrees$CutSheet" 31 0 7 (t_CS 7) := ⟨R_CS, F_CS, 13, t_CS, rfl, by decide, i_CS, Or.inl (tb_at 220 rfl rfl), rfl, rfl, t_CS_ok, n_CS, rfl⟩
set_option maxRecDepth 100000 in
theorem fl_ST_198 : fl_ok "SheetTrees" 198 0 7 := ⟨R_CS, F_CS, 13, rfl, by decide, i_CS, Or.inr ⟨"SheetTrees", tb_at 221 rfl rfl⟩, rfl⟩
set_option maxRecDepth 100000 in
theorem fp_ST_198 : fp_ok "SheetTrees" 198 0 7 (t_CS 7) := ⟨R_CS, F_CS, 13, t_CS, rfl, by decide, i_CS, Or.inr ⟨"SheetTrees", tb_at 221 rfl rfl⟩, rfl, rfl, t_CS_ok, n_CS, rfl⟩
set_option maxRecDepth 100000 in
theorem fp_CS_34 : fp_ok "SheetTrees$CutSheet" 34 0 8 (t_CS 8) := ⟨R_CS, F_CS, 13, t_CS, rfl, by decide, i_CS, Or.inl (tb_at 222 rfl rfl), rfl, rfl, t_CS_ok, n_CS, rfl⟩
set_option maxRecDepth 100000 in
theorem fl_ST_172 : fl_ok "SheetTrees" 172 0 8 := ⟨R_CS, F_CS, 13, rfl, by decide, i_CS, Or.inr ⟨"SheetTrees", tb_at 223 rfl rfl⟩, rfl⟩
set_option maxRecDepth 100000 in
theorem fp_ST_172 : fp_ok "SheetTrees" 172 0 8 (t_CS 8) := ⟨R_CS, F_CS, 13, t_CS, rfl, by decide, i_CS, Or.inr ⟨"SheetTrees", tb_at 223 rfl rfl⟩, rfl, rfl, t_CS_ok, n_CS, rfl⟩
set_option maxRecDepth 100000 in
theorem fp_CS_37 : fp_ok "SheetTrees$CutSheet" 37 0 9 (t_CS 9) := ⟨R_CS, F_CS, 13, t_CS, rfl, by decide, i_CS, Or.inl (tb_at 224 rfl rfl), rfl, rfl, t_CS_ok, n_CS, rfl⟩
set_option maxRecDepth 100000 in
theorem fl_ST_173 : fl_ok "SheetTrees" 173 0 9 := ⟨R_CS, F_CS, 13, rfl, by decide, i_CS, Or.inr ⟨"SheetTrees", tb_at 225 rfl rfl⟩, rfl⟩
set_option maxRecDepth 100000 in
theorem fp_ST_173 : fp_ok "SheetTrees" 173 0 9 (t_CS 9) := ⟨R_CS, F_CS, 13, t_CS, rfl, by decide, i_CS, Or.inr ⟨"SheetTrees", tb_at 225 rfl rfl⟩, rfl, rfl, t_CS_ok, n_CS, rfl⟩
set_option maxRecDepth 100000 in
theorem fp_CS_40 : fp_ok "SheetTrees$CutSheet" 40 0 10 (t_CS 10) := ⟨R_CS, F_CS, 13, t_CS, rfl, by decide, i_CS, Or.inl (tb_at 226 rfl rfl), rfl, rfl, t_CS_ok, n_CS, rfl⟩
set_option maxRecDepth 100000 in
theorem fl_ST_215 : fl_ok "SheetTrees" 215 0 10 := ⟨R_CS, F_CS, 13, rfl, by decide, i_CS, Or.inr ⟨"SheetTrees", tb_at 227 rfl rfl⟩, rfl⟩
set_option maxRecDepth 100000 in
theorem fp_ST_215 : fp_ok "SheetTrees" 215 0 10 (t_CS 10) := ⟨R_CS, F_CS, 13, t_CS, rfl, by decide, i_CS, Or.inr ⟨"SheetTrees", tb_at 227 rfl rfl⟩, rfl, rfl, t_CS_ok, n_CS, rfl⟩
set_option maxRecDepth 100000 in
theorem fp_CS_43 : fp_ok "SheetTrees$CutSheet" 43 0 11 (t_CS 11) := ⟨R_CS, F_CS, 13, t_CS, rfl, by decide, i_CS, Or.inl (tb_at 228 rfl rfl), rfl, rfl, t_CS_ok, n_CS, rfl⟩
set_option maxRecDepth 100000 in
theorem fl_ST_185 : fl_ok "SheetTrees" 185 0 11 := ⟨R_CS, F_CS, 13, rfl, by decide, i_CS, Or.inr ⟨"SheetTrees", tb_at 229 rfl rfl⟩, rfl⟩
set_option maxRecDepth 100000 in
theorem fp_ST_185 : fp_ok "SheetTrees" 185 0 11 (t_CS 11) := ⟨R_CS, F_CS, 13, t_CS, rfl, by decide, i_CS, Or.inr ⟨"SheetTrees", tb_at 229 rfl rfl⟩, rfl, rfl, t_CS_ok, n_CS, rfl⟩
set_option maxRecDepth 100000 in
theorem fp_CS_46 : fp_ok "SheetTrees$CutSheet" 46 0 12 (t_CS 12) := ⟨R_CS, F_CS, 13, t_CS, rfl, by decide, i_CS, Or.inl (tb_at 230 rfl rfl), rfl, rfl, t_CS_ok, n_CS, rfl⟩
set_option maxRecDepth 100000 in
theorem fl_ST_186 : fl_ok "SheetTrees" 186 0 12 := ⟨R_CS, F_CS, 13, rfl, by decide, i_CS, Or.inr ⟨"SheetTrees", tb_at 231 rfl rfl⟩, rfl⟩
set_option maxRecDepth 100000 in
theorem fp_ST_186 : fp_ok "SheetTrees" 186 0 12 (t_CS 12) := ⟨R_CS, F_CS, 13, t_CS, rfl, by decide, i_CS, Or.inr ⟨"SheetTrees", tb_at 231 rfl rfl⟩, rfl, rfl, t_CS_ok, n_CS, rfl⟩
set_option maxRecDepth 100000 in
theorem fl_ST_58 : fl_ok "SheetTrees" 58 5 0 := ⟨R_ST, F_ST, 15, rfl, by decide, i_ST, Or.inl (tb_at 259 rfl rfl), rfl⟩
set_option maxRecDepth 100000 in
theorem fF_ST_58 : fF_ok "SheetTrees" 58 5 0 (t_ST 0) := ⟨R_ST, F_ST, 15, t_ST, rfl, by decide, i_ST, tb_at 259 rfl rfl, rfl, rfl, t_ST_ok, n_ST, rfl, rfl⟩
set_option maxRecDepth 100000 in
theorem fl_ST_61 : fl_ok "SheetTrees" 61 5 1 := ⟨R_ST, F_ST, 15, rfl, by decide, i_ST, Or.inl (tb_at 260 rfl rfl), rfl⟩
set_option maxRecDepth 100000 in
theorem fF_ST_61 : fF_ok "SheetTrees" 61 5 1 (t_ST 1) := ⟨R_ST, F_ST, 15, t_ST, rfl, by decide, i_ST, tb_at 260 rfl rfl, rfl, rfl, t_ST_ok, n_ST, rfl, rfl⟩
set_option maxRecDepth 100000 in
theorem fl_ST_11 : fl_ok "SheetTrees" 11 5 2 := ⟨R_ST, F_ST, 15, rfl, by decide, i_ST, Or.inl (tb_at 261 rfl rfl), rfl⟩
set_option maxRecDepth 100000 in
theorem fF_ST_11 : fF_ok "SheetTrees" 11 5 2 (t_ST 2) := ⟨R_ST, F_ST, 15, t_ST, rfl, by decide, i_ST, tb_at 261 rfl rfl, rfl, rfl, t_ST_ok, n_ST, rfl, rfl⟩
set_option maxRecDepth 100000 in
theorem fl_ST_17 : fl_ok "SheetTrees" 17 5 3 := ⟨R_ST, F_ST, 15, rfl, by decide, i_ST, Or.inl (tb_at 262 rfl rfl), rfl⟩
set_option maxRecDepth 100000 in
theorem fF_ST_17 : fF_ok "SheetTrees" 17 5 3 (t_ST 3) := ⟨R_ST, F_ST, 15, t_ST, rfl, by decide, i_ST, tb_at 262 rfl rfl, rfl, rfl, t_ST_ok, n_ST, rfl, rfl⟩
set_option maxRecDepth 100000 in
theorem fl_ST_23 : fl_ok "SheetTrees" 23 5 4 := ⟨R_ST, F_ST, 15, rfl, by decide, i_ST, Or.inl (tb_at 263 rfl rfl), rfl⟩
set_option maxRecDepth 100000 in
theorem fF_ST_23 : fF_ok "SheetTrees" 23 5 4 (t_ST 4) := ⟨R_ST, F_ST, 15, t_ST, rfl, by decide, i_ST, tb_at 263 rfl rfl, rfl, rfl, t_ST_ok, n_ST, rfl, rfl⟩
set_option maxRecDepth 100000 in
theorem fl_ST_27 : fl_ok "SheetTrees" 27 5 5 := ⟨R_ST, F_ST, 15, rfl, by decide, i_ST, Or.inl (tb_at 264 rfl rfl), rfl⟩
set_option maxRecDepth 100000 in
theorem fF_ST_27 : fF_ok "SheetTrees" 27 5 5 (t_ST 5) := ⟨R_ST, F_ST, 15, t_ST, rfl, by decide, i_ST, tb_at 264 rfl rfl, rfl, rfl, t_ST_ok, n_ST, rfl, rfl⟩
set_option maxRecDepth 100000 in
theorem fl_ST_31 : fl_ok "SheetTrees" 31 5 6 := ⟨R_ST, F_ST, 15, rfl, by decide, i_ST, Or.inl (tb_at 265 rfl rfl), rfl⟩
set_option maxRecDepth 100000 in
theorem fF_ST_31 : fF_ok "SheetTrees" 31 5 6 (t_ST 6) := ⟨R_ST, F_ST, 15, t_ST, rfl, by decide, i_ST, tb_at 265 rfl rfl, rfl, rfl, t_ST_ok, n_ST, rfl, rfl⟩
set_option maxRecDepth 100000 in
theorem fl_ST_69 : fl_ok "SheetTrees" 69 5 7 := ⟨R_ST, F_ST, 15, rfl, by decide, i_ST, Or.inl (tb_at 266 rfl rfl), rfl⟩
set_option maxRecDepth 100000 in
theorem fF_ST_69 : fF_ok "SheetTrees" 69 5 7 (t_ST 7) := ⟨R_ST, F_ST, 15, t_ST, rfl, by decide, i_ST, tb_at 266 rfl rfl, rfl, rfl, t_ST_ok, n_ST, rfl, rfl⟩
set_option maxRecDepth 100000 in
theorem fl_ST_78 : fl_ok "SheetTrees" 78 5 8 := ⟨R_ST, F_ST, 15, rfl, by decide, i_ST, Or.inl (tb_at 267 rfl rfl), rfl⟩
set_option maxRecDepth 100000 in
theorem fF_ST_78 : fF_ok "SheetTrees" 78 5 8 (t_ST 8) := ⟨R_ST, F_ST, 15, t_ST, rfl, by decide, i_ST, tb_at 267 rfl rfl, rfl, rfl, t_ST_ok, n_ST, rfl, rfl⟩
set_option maxRecDepth 100000 in
theorem fl_ST_34 : fl_ok "SheetTrees" 34 5 9 := ⟨R_ST, F_ST, 15, rfl, by decide, i_ST, Or.inl (tb_at 268 rfl rfl), rfl⟩
set_option maxRecDepth 100000 in
theorem fp_ST_34 : fp_ok "SheetTrees" 34 5 9 (t_ST 9) := ⟨R_ST, F_ST, 15, t_ST, rfl, by decide, i_ST, Or.inl (tb_at 268 rfl rfl), rfl, rfl, t_ST_ok, n_ST, rfl⟩
set_option maxRecDepth 100000 in
theorem fl_ST_38 : fl_ok "SheetTrees" 38 5 10 := ⟨R_ST, F_ST, 15, rfl, by decide, i_ST, Or.inl (tb_at 269 rfl rfl), rfl⟩
set_option maxRecDepth 100000 in
theorem fp_ST_38 : fp_ok "SheetTrees" 38 5 10 (t_ST 10) := ⟨R_ST, F_ST, 15, t_ST, rfl, by decide, i_ST, Or.inl (tb_at 269 rfl rfl), rfl, rfl, t_ST_ok, n_ST, rfl⟩
set_option maxRecDepth 100000 in
theorem fl_ST_41 : fl_ok "SheetTrees" 41 5 11 := ⟨R_ST, F_ST, 15, rfl, by decide, i_ST, Or.inl (tb_at 270 rfl rfl), rfl⟩
set_option maxRecDepth 100000 in
theorem fp_ST_41 : fp_ok "SheetTrees" 41 5 11 (t_ST 11) := ⟨R_ST, F_ST, 15, t_ST, rfl, by decide, i_ST, Or.inl (tb_at 270 rfl rfl), rfl, rfl, t_ST_ok, n_ST, rfl⟩
set_option maxRecDepth 100000 in
theorem fl_ST_44 : fl_ok "SheetTrees" 44 5 12 := ⟨R_ST, F_ST, 15, rfl, by decide, i_ST, Or.inl (tb_at 271 rfl rfl), rfl⟩
set_option maxRecDepth 100000 in
theorem fp_ST_44 : fp_ok "SheetTrees" 44 5 12 (t_ST 12) := ⟨R_ST, F_ST, 15, t_ST, rfl, by decide, i_ST, Or.inl (tb_at 271 rfl rfl), rfl, rfl, t_ST_ok, n_ST, rfl⟩
set_option maxRecDepth 100000 in
theorem fl_ST_47 : fl_ok "SheetTrees" 47 5 13 := ⟨R_ST, F_ST, 15, rfl, by decide, i_ST, Or.inl (tb_at 272 rfl rfl), rfl⟩
set_option maxRecDepth 100000 in
theorem fp_ST_47 : fp_ok "SheetTrees" 47 5 13 (t_ST 13) := ⟨R_ST, F_ST, 15, t_ST, rfl, by decide, i_ST, Or.inl (tb_at 272 rfl rfl), rfl, rfl, t_ST_ok, n_ST, rfl⟩
set_option maxRecDepth 100000 in
theorem fl_ST_50 : fl_ok "SheetTrees" 50 5 14 := ⟨R_ST, F_ST, 15, rfl, by decide, i_ST, Or.inl (tb_at 273 rfl rfl), rfl⟩
set_option maxRecDepth 100000 in
theorem fp_ST_50 : fp_ok "SheetTrees" 50 5 14 (t_ST 14) := ⟨R_ST, F_ST, 15, t_ST, rfl, by decide, i_ST, Or.inl (tb_at 273 rfl rfl), rfl, rfl, t_ST_ok, n_ST, rfl⟩
set_option maxRecDepth 100000 in
theorem fl_MO_99 : fl_ok "SheetTreesModel" 99 6 0 := ⟨R_MO, F_MO, 34, rfl, by decide, i_MO, Or.inl (tb_at 657 rfl rfl), rfl⟩
set_option maxRecDepth 100000 in
theorem fp_MO_99 : fp_ok "SheetTreesModel" 99 6 0 (t_MO 0) := ⟨R_MO, F_MO, 34, t_MO, rfl, by decide, i_MO, Or.inl (tb_at 657 rfl rfl), rfl, rfl, t_MO_ok, n_MO, rfl⟩
set_option maxRecDepth 100000 in
theorem fl_MO_89 : fl_ok "SheetTreesModel" 89 6 1 := ⟨R_MO, F_MO, 34, rfl, by decide, i_MO, Or.inl (tb_at 658 rfl rfl), rfl⟩
set_option maxRecDepth 100000 in
theorem fF_MO_89 : fF_ok "SheetTreesModel" 89 6 1 (t_MO 1) := ⟨R_MO, F_MO, 34, t_MO, rfl, by decide, i_MO, tb_at 658 rfl rfl, rfl, rfl, t_MO_ok, n_MO, rfl, rfl⟩
set_option maxRecDepth 100000 in
theorem fl_MO_93 : fl_ok "SheetTreesModel" 93 6 2 := ⟨R_MO, F_MO, 34, rfl, by decide, i_MO, Or.inl (tb_at 659 rfl rfl), rfl⟩
set_option maxRecDepth 100000 in
theorem fF_MO_93 : fF_ok "SheetTreesModel" 93 6 2 (t_MO 2) := ⟨R_MO, F_MO, 34, t_MO, rfl, by decide, i_MO, tb_at 659 rfl rfl, rfl, rfl, t_MO_ok, n_MO, rfl, rfl⟩
set_option maxRecDepth 100000 in
theorem fl_MO_96 : fl_ok "SheetTreesModel" 96 6 3 := ⟨R_MO, F_MO, 34, rfl, by decide, i_MO, Or.inl (tb_at 660 rfl rfl), rfl⟩
set_option maxRecDepth 100000 in
theorem fF_MO_96 : fF_ok "SheetTreesModel" 96 6 3 (t_MO 3) := ⟨R_MO, F_MO, 34, t_MO, rfl, by decide, i_MO, tb_at 660 rfl rfl, rfl, rfl, t_MO_ok, n_MO, rfl, rfl⟩
set_option maxRecDepth 100000 in
theorem fl_MO_106 : fl_ok "SheetTreesModel" 106 6 4 := ⟨R_MO, F_MO, 34, rfl, by decide, i_MO, Or.inl (tb_at 661 rfl rfl), rfl⟩
set_option maxRecDepth 100000 in
theorem fp_MO_106 : fp_ok "SheetTreesModel" 106 6 4 (t_MO 4) := ⟨R_MO, F_MO, 34, t_MO, rfl, by decide, i_MO, Or.inl (tb_at 661 rfl rfl), rfl, rfl, t_MO_ok, n_MO, rfl⟩
set_option maxRecDepth 100000 in
theorem fl_MO_7 : fl_ok "SheetTreesModel" 7 6 5 := ⟨R_MO, F_MO, 34, rfl, by decide, i_MO, Or.inl (tb_at 662 rfl rfl), rfl⟩
set_option maxRecDepth 100000 in
theorem fF_MO_7 : fF_ok "SheetTreesModel" 7 6 5 (t_MO 5) := ⟨R_MO, F_MO, 34, t_MO, rfl, by decide, i_MO, tb_at 662 rfl rfl, rfl, rfl, t_MO_ok, n_MO, rfl, rfl⟩
set_option maxRecDepth 100000 in
theorem fl_MO_13 : fl_ok "SheetTreesModel" 13 6 6 := ⟨R_MO, F_MO, 34, rfl, by decide, i_MO, Or.inl (tb_at 663 rfl rfl), rfl⟩
set_option maxRecDepth 100000 in
theorem fF_MO_13 : fF_ok "SheetTreesModel" 13 6 6 (t_MO 6) := ⟨R_MO, F_MO, 34, t_MO, rfl, by decide, i_MO, tb_at 663 rfl rfl, rfl, rfl, t_MO_ok, n_MO, rfl, rfl⟩
set_option maxRecDepth 100000 in
theorem fl_MO_16 : fl_ok "SheetTreesModel" 16 6 7 := ⟨R_MO, F_MO, 34, rfl, by decide, i_MO, Or.inl (tb_at 664 rfl rfl), rfl⟩
set_option maxRecDepth 100000 in
theorem fF_MO_16 : fF_ok "SheetTreesModel" 16 6 7 (t_MO 7) := ⟨R_MO, F_MO, 34, t_MO, rfl, by decide, i_MO, tb_at 664 rfl rfl, rfl, rfl, t_MO_ok, n_MO, rfl, rfl⟩
set_option maxRecDepth 100000 in
theorem fl_MO_19 : fl_ok "SheetTreesModel" 19 6 8 := ⟨R_MO, F_MO, 34, rfl, by decide, i_MO, Or.inl (tb_at 665 rfl rfl), rfl⟩
set_option maxRecDepth 100000 in
theorem fF_MO_19 : fF_ok "SheetTreesModel" 19 6 8 (t_MO 8) := ⟨R_MO, F_MO, 34, t_MO, rfl, by decide, i_MO, tb_at 665 rfl rfl, rfl, rfl, t_MO_ok, n_MO, rfl, rfl⟩
set_option maxRecDepth 100000 in
theorem fl_MO_113 : fl_ok "SheetTreesModel" 113 6 9 := ⟨R_MO, F_MO, 34, rfl, by decide, i_MO, Or.inl (tb_at 666 rfl rfl), rfl⟩
set_option maxRecDepth 100000 in
theorem fp_MO_113 : fp_ok "SheetTreesModel" 113 6 9 (t_MO 9) := ⟨R_MO, F_MO, 34, t_MO, rfl, by decide, i_MO, Or.inl (tb_at 666 rfl rfl), rfl, rfl, t_MO_ok, n_MO, rfl⟩
set_option maxRecDepth 100000 in
theorem fl_MO_22 : fl_ok "SheetTreesModel" 22 6 10 := ⟨R_MO, F_MO, 34, rfl, by decide, i_MO, Or.inl (tb_at 667 rfl rfl), rfl⟩
set_option maxRecDepth 100000 in
theorem fF_MO_22 : fF_ok "SheetTreesModel" 22 6 10 (t_MO 10) := ⟨R_MO, F_MO, 34, t_MO, rfl, by decide, i_MO, tb_at 667 rfl rfl, rfl, rfl, t_MO_ok, n_MO, rfl, rfl⟩
set_option maxRecDepth 100000 in
theorem fl_MO_25 : fl_ok "SheetTreesModel" 25 6 11 := ⟨R_MO, F_MO, 34, rfl, by decide, i_MO, Or.inl (tb_at 668 rfl rfl), rfl⟩
set_option maxRecDepth 100000 in
theorem fF_MO_25 : fF_ok "SheetTreesModel" 25 6 11 (t_MO 11) := ⟨R_MO, F_MO, 34, t_MO, rfl, by decide, i_MO, tb_at 668 rfl rfl, rfl, rfl, t_MO_ok, n_MO, rfl, rfl⟩
set_option maxRecDepth 100000 in
theorem fl_MO_28 : fl_ok "SheetTreesModel" 28 6 12 := ⟨R_MO, F_MO, 34, rfl, by decide, i_MO, Or.inl (tb_at 669 rfl rfl), rfl⟩
set_option maxRecDepth 100000 in
theorem fF_MO_28 : fF_ok "SheetTreesModel" 28 6 12 (t_MO 12) := ⟨R_MO, F_MO, 34, t_MO, rfl, by decide, i_MO, tb_at 669 rfl rfl, rfl, rfl, t_MO_ok, n_MO, rfl, rfl⟩
set_option maxRecDepth 100000 in
theorem fl_MO_31 : fl_ok "SheetTreesModel" 31 6 13 := ⟨R_MO, F_MO, 34, rfl, by decide, i_MO, Or.inl (tb_at 670 rfl rfl), rfl⟩
set_option maxRecDepth 100000 in
theorem fF_MO_31 : fF_ok "SheetTreesModel" 31 6 13 (t_MO 13) := ⟨R_MO, F_MO, 34, t_MO, rfl, by decide, i_MO, tb_at 670 rfl rfl, rfl, rfl, t_MO_ok, n_MO, rfl, rfl⟩
set_option maxRecDepth 100000 in
theorem fl_MO_35 : fl_ok "SheetTreesModel" 35 6 14 := ⟨R_MO, F_MO, 34, rfl, by decide, i_MO, Or.inl (tb_at 671 rfl rfl), rfl⟩
set_option maxRecDepth 100000 in
theorem fF_MO_35 : fF_ok "SheetTreesModel" 35 6 14 (t_MO 14) := ⟨R_MO, F_MO, 34, t_MO, rfl, by decide, i_MO, tb_at 671 rfl rfl, rfl, rfl, t_MO_ok, n_MO, rfl, rfl⟩
set_option maxRecDepth 100000 in
theorem fl_MO_38 : fl_ok "SheetTreesModel" 38 6 15 := ⟨R_MO, F_MO, 34, rfl, by decide, i_MO, Or.inl (tb_at 672 rfl rfl), rfl⟩
set_option maxRecDepth 100000 in
theorem fF_MO_38 : fF_ok "SheetTreesModel" 38 6 15 (t_MO 15) := ⟨R_MO, F_MO, 34, t_MO, rfl, by decide, i_MO, tb_at 672 rfl rfl, rfl, rfl, t_MO_ok, n_MO, rfl, rfl⟩
set_option maxRecDepth 100000 in
theorem fl_MO_41 : fl_ok "SheetTreesModel" 41 6 16 := ⟨R_MO, F_MO, 34, rfl, by decide, i_MO, Or.inl (tb_at 673 rfl rfl), rfl⟩
set_option maxRecDepth 100000 in
theorem fF_MO_41 : fF_ok "SheetTreesModel" 41 6 16 (t_MO 16) := ⟨R_MO, F_MO, 34, t_MO, rfl, by decide, i_MO, tb_at 673 rfl rfl, rfl, rfl, t_MO_ok, n_MO, rfl, rfl⟩
set_option maxRecDepth 100000 in
theorem fl_MO_44 : fl_ok "SheetTreesModel" 44 6 17 := ⟨R_MO, F_MO, 34, rfl, by decide, i_MO, Or.inl (tb_at 674 rfl rfl), rfl⟩
set_option maxRecDepth 100000 in
theorem fF_MO_44 : fF_ok "SheetTreesModel" 44 6 17 (t_MO 17) := ⟨R_MO, F_MO, 34, t_MO, rfl, by decide, i_MO, tb_at 674 rfl rfl, rfl, rfl, t_MO_ok, n_MO, rfl, rfl⟩
set_option maxRecDepth 100000 in
theorem fl_MO_47 : fl_ok "SheetTreesModel" 47 6 18 := ⟨R_MO, F_MO, 34, rfl, by decide, i_MO, Or.inl (tb_at 675 rfl rfl), rfl⟩
set_option maxRecDepth 100000 in
theorem fF_MO_47 : fF_ok "SheetTreesModel" 47 6 18 (t_MO 18) := ⟨R_MO, F_MO, 34, t_MO, rfl, by decide, i_MO, tb_at 675 rfl rfl, rfl, rfl, t_MO_ok, n_MO, rfl, rfl⟩
set_option maxRecDepth 100000 in
theorem fl_MO_50 : fl_ok "SheetTreesModel" 50 6 19 := ⟨R_MO, F_MO, 34, rfl, by decide, i_MO, Or.inl (tb_at 676 rfl rfl), rfl⟩
set_option maxRecDepth 100000 in
theorem fF_MO_50 : fF_ok "SheetTreesModel" 50 6 19 (t_MO 19) := ⟨R_MO, F_MO, 34, t_MO, rfl, by decide, i_MO, tb_at 676 rfl rfl, rfl, rfl, t_MO_ok, n_MO, rfl, rfl⟩
set_option maxRecDepth 100000 in
theorem fl_MO_53 : fl_ok "SheetTreesModel" 53 6 20 := ⟨R_MO, F_MO, 34, rfl, by decide, i_MO, Or.inl (tb_at 677 rfl rfl), rfl⟩
set_option maxRecDepth 100000 in
theorem fF_MO_53 : fF_ok "SheetTreesModel" 53 6 20 (t_MO 20) := ⟨R_MO, F_MO, 34, t_MO, rfl, by decide, i_MO, tb_at 677 rfl rfl, rfl, rfl, t_MO_ok, n_MO, rfl, rfl⟩
set_option maxRecDepth 100000 in
theorem fl_MO_109 : fl_ok "SheetTreesModel" 109 6 21 := ⟨R_MO, F_MO, 34, rfl, by decide, i_MO, Or.inl (tb_at 678 rfl rfl), rfl⟩
set_option maxRecDepth 100000 in
theorem fp_MO_109 : fp_ok "SheetTreesModel" 109 6 21 (t_MO 21) := ⟨R_MO, F_MO, 34, t_MO, rfl, by decide, i_MO, Or.inl (tb_at 678 rfl rfl), rfl, rfl, t_MO_ok, n_MO, rfl⟩
set_option maxRecDepth 100000 in
theorem fl_MO_152 : fl_ok "SheetTreesModel" 152 6 22 := ⟨R_MO, F_MO, 34, rfl, by decide, i_MO, Or.inl (tb_at 679 rfl rfl), rfl⟩
set_option maxRecDepth 100000 in
theorem fp_MO_152 : fp_ok "SheetTreesModel" 152 6 22 (t_MO 22) := ⟨R_MO, F_MO, 34, t_MO, rfl, by decide, i_MO, Or.inl (tb_at 679 rfl rfl), rfl, rfl, t_MO_ok, n_MO, rfl⟩
set_option maxRecDepth 100000 in
theorem fl_MO_56 : fl_ok "SheetTreesModel" 56 6 23 := ⟨R_MO, F_MO, 34, rfl, by decide, i_MO, Or.inl (tb_at 680 rfl rfl), rfl⟩
set_option maxRecDepth 100000 in
theorem fF_MO_56 : fF_ok "SheetTreesModel" 56 6 23 (t_MO 23) := ⟨R_MO, F_MO, 34, t_MO, rfl, by decide, i_MO, tb_at 680 rfl rfl, rfl, rfl, t_MO_ok, n_MO, rfl, rfl⟩
set_option maxRecDepth 100000 in
theorem fl_MO_59 : fl_ok "SheetTreesModel" 59 6 24 := ⟨R_MO, F_MO, 34, rfl, by decide, i_MO, Or.inl (tb_at 681 rfl rfl), rfl⟩
set_option maxRecDepth 100000 in
theorem fF_MO_59 : fF_ok "SheetTreesModel" 59 6 24 (t_MO 24) := ⟨R_MO, F_MO, 34, t_MO, rfl, by decide, i_MO, tb_at 681 rfl rfl, rfl, rfl, t_MO_ok, n_MO, rfl, rfl⟩
set_option maxRecDepth 100000 in
theorem fl_MO_62 : fl_ok "SheetTreesModel" 62 6 25 := ⟨R_MO, F_MO, 34, rfl, by decide, i_MO, Or.inl (tb_at 682 rfl rfl), rfl⟩
set_option maxRecDepth 100000 in
theorem fF_MO_62 : fF_ok "SheetTreesModel" 62 6 25 (t_MO 25) := ⟨R_MO, F_MO, 34, t_MO, rfl, by decide, i_MO, tb_at 682 rfl rfl, rfl, rfl, t_MO_ok, n_MO, rfl, rfl⟩
set_option maxRecDepth 100000 in
theorem fl_MO_65 : fl_ok "SheetTreesModel" 65 6 26 := ⟨R_MO, F_MO, 34, rfl, by decide, i_MO, Or.inl (tb_at 683 rfl rfl), rfl⟩
set_option maxRecDepth 100000 in
theorem fF_MO_65 : fF_ok "SheetTreesModel" 65 6 26 (t_MO 26) := ⟨R_MO, F_MO, 34, t_MO, rfl, by decide, i_MO, tb_at 683 rfl rfl, rfl, rfl, t_MO_ok, n_MO, rfl, rfl⟩
set_option maxRecDepth 100000 in
theorem fl_MO_68 : fl_ok "SheetTreesModel" 68 6 27 := ⟨R_MO, F_MO, 34, rfl, by decide, i_MO, Or.inl (tb_at 684 rfl rfl), rfl⟩
set_option maxRecDepth 100000 in
theorem fF_MO_68 : fF_ok "SheetTreesModel" 68 6 27 (t_MO 27) := ⟨R_MO, F_MO, 34, t_MO, rfl, by decide, i_MO, tb_at 684 rfl rfl, rfl, rfl, t_MO_ok, n_MO, rfl, rfl⟩
set_option maxRecDepth 100000 in
theorem fl_MO_71 : fl_ok "SheetTreesModel" 71 6 28 := ⟨R_MO, F_MO, 34, rfl, by decide, i_MO, Or.inl (tb_at 685 rfl rfl), rfl⟩
set_option maxRecDepth 100000 in
theorem fF_MO_71 : fF_ok "SheetTreesModel" 71 6 28 (t_MO 28) := ⟨R_MO, F_MO, 34, t_MO, rfl, by decide, i_MO, tb_at 685 rfl rfl, rfl, rfl, t_MO_ok, n_MO, rfl, rfl⟩
set_option maxRecDepth 100000 in
theorem fl_MO_74 : fl_ok "SheetTreesModel" 74 6 29 := ⟨R_MO, F_MO, 34, rfl, by decide, i_MO, Or.inl (tb_at 686 rfl rfl), rfl⟩
set_option maxRecDepth 100000 in
theorem fF_MO_74 : fF_ok "SheetTreesModel" 74 6 29 (t_MO 29) := ⟨R_MO, F_MO, 34, t_MO, rfl, by decide, i_MO, tb_at 686 rfl rfl, rfl, rfl, t_MO_ok, n_MO, rfl, rfl⟩
set_option maxRecDepth 100000 in
theorem fl_MO_77 : fl_ok "SheetTreesModel" 77 6 30 := ⟨R_MO, F_MO, 34, rfl, by decide, i_MO, Or.inl (tb_at 687 rfl rfl), rfl⟩
set_option maxRecDepth 100000 in
theorem fF_MO_77 : fF_ok "SheetTreesModel" 77 6 30 (t_MO 30) := ⟨R_MO, F_MO, 34, t_MO, rfl, by decide, i_MO, tb_at 687 rfl rfl, rfl, rfl, t_MO_ok, n_MO, rfl, rfl⟩
set_option maxRecDepth 100000 in
theorem fl_MO_80 : fl_ok "SheetTreesModel" 80 6 31 := ⟨R_MO, F_MO, 34, rfl, by decide, i_MO, Or.inl (tb_at 688 rfl rfl), rfl⟩
set_option maxRecDepth 100000 in
theorem fF_MO_80 : fF_ok "SheetTreesModel" 80 6 31 (t_MO 31) := ⟨R_MO, F_MO, 34, t_MO, rfl, by decide, i_MO, tb_at 688 rfl rfl, rfl, rfl, t_MO_ok, n_MO, rfl, rfl⟩
set_option maxRecDepth 100000 in
theorem fl_MO_83 : fl_ok "SheetTreesModel" 83 6 32 := ⟨R_MO, F_MO, 34, rfl, by decide, i_MO, Or.inl (tb_at 689 rfl rfl), rfl⟩
set_option maxRecDepth 100000 in
theorem fF_MO_83 : fF_ok "SheetTreesModel" 83 6 32 (t_MO 32) := ⟨R_MO, F_MO, 34, t_MO, rfl, by decide, i_MO, tb_at 689 rfl rfl, rfl, rfl, t_MO_ok, n_MO, rfl, rfl⟩
set_option maxRecDepth 100000 in
theorem fl_MO_86 : fl_ok "SheetTreesModel" 86 6 33 := ⟨R_MO, F_MO, 34, rfl, by decide, i_MO, Or.inl (tb_at 690 rfl rfl), rfl⟩
set_option maxRecDepth 100000 in
theorem fF_MO_86 : fF_ok "SheetTreesModel" 86 6 33 (t_MO 33) := ⟨R_MO, F_MO, 34, t_MO, rfl, by decide, i_MO, tb_at 690 rfl rfl, rfl, rfl, t_MO_ok, n_MO, rfl, rfl⟩
set_option maxRecDepth 100000 in
theorem lk_LW_54 : lk_I "SheetTreesLaw" 54 y_ST_init b_ST_init 5 3 := ⟨Or.inl (tb_at 63 rfl rfl), ⟨tb_at 64 rfl rfl, rfl⟩, tb_at 45 rfl rfl, tb_at 65 rfl rfl, ⟨by decide, by decide⟩, by decide +kernel⟩
set_option maxRecDepth 100000 in
theorem lk_ST_54 : lk_S "SheetTrees" 54 y_ST_nearest b_ST_nearest 3 (some .int) 3 := ⟨Or.inl (tb_at 75 rfl rfl), tb_at 76 rfl rfl, tb_at 45 rfl rfl, tb_at 77 rfl rfl, ⟨by decide, by decide⟩, by decide +kernel⟩
set_option maxRecDepth 100000 in
theorem lk_ST_238 : lk_S "SheetTrees" 238 y_MA_min b_MA_min 2 (some .int) 2 := ⟨Or.inl (tb_at 78 rfl rfl), tb_at 79 rfl rfl, tb_at 46 rfl rfl, tb_at 80 rfl rfl, ⟨by decide, by decide⟩, by decide +kernel⟩
set_option maxRecDepth 100000 in
theorem lk_ST_232 : lk_S "SheetTrees" 232 y_MA_max b_MA_max 2 (some .int) 2 := ⟨Or.inl (tb_at 81 rfl rfl), tb_at 82 rfl rfl, tb_at 46 rfl rfl, tb_at 83 rfl rfl, ⟨by decide, by decide⟩, by decide +kernel⟩
set_option maxRecDepth 100000 in
theorem lk_ST_66 : lk_I "SheetTrees" 66 y_TB_init b_TB_init 2 1 := ⟨Or.inr ⟨"SheetTrees", tb_at 86 rfl rfl⟩, ⟨tb_at 87 rfl rfl, rfl⟩, tb_at 47 rfl rfl, tb_at 88 rfl rfl, ⟨by decide, by decide⟩, by decide +kernel⟩
set_option maxRecDepth 100000 in
theorem lk_ST_75 : lk_I "SheetTrees" 75 y_LY_init b_LY_init 2 1 := ⟨Or.inr ⟨"SheetTrees", tb_at 111 rfl rfl⟩, ⟨tb_at 112 rfl rfl, rfl⟩, tb_at 48 rfl rfl, tb_at 113 rfl rfl, ⟨by decide, by decide⟩, by decide +kernel⟩
set_option maxRecDepth 100000 in
theorem lk_ST_82 : lk_I "SheetTrees" 82 y_SH_init b_SH_init 1 0 := ⟨Or.inr ⟨"SheetTrees", tb_at 143 rfl rfl⟩, ⟨tb_at 144 rfl rfl, rfl⟩, tb_at 49 rfl rfl, tb_at 145 rfl rfl, ⟨by decide, by decide⟩, by decide +kernel⟩
set_option maxRecDepth 100000 in
theorem lk_ST_83 : lk_I "SheetTrees" 83 y_PA_init b_PA_init 1 0 := ⟨Or.inr ⟨"SheetTrees", tb_at 172 rfl rfl⟩, ⟨tb_at 173 rfl rfl, rfl⟩, tb_at 50 rfl rfl, tb_at 174 rfl rfl, ⟨by decide, by decide⟩, by decide +kernel⟩
set_option maxRecDepth 100000 in
theorem lk_ST_84 : lk_I "SheetTrees" 84 y_CS_init b_CS_init 1 0 := ⟨Or.inr ⟨"SheetTrees", tb_at 202 rfl rfl⟩, ⟨tb_at 203 rfl rfl, rfl⟩, tb_at 51 rfl rfl, tb_at 204 rfl rfl, ⟨by decide, by decide⟩, by decide +kernel⟩
set_option maxRecDepth 100000 in
theorem lk_LW_79 : lk_V "SheetTreesLaw" 79 y_ST_run b_ST_run 3 (some .int) 0 := ⟨Or.inl (tb_at 305 rfl rfl), ⟨tb_at 306 rfl rfl, tb_at 307 rfl rfl⟩, tb_at 45 rfl rfl, tb_at 308 rfl rfl, ⟨by decide, by decide⟩, by decide +kernel⟩
set_option maxRecDepth 100000 in
theorem lk_ST_153 : lk_V "SheetTrees" 153 y_ST_startRun b_ST_startRun 2 none 0 := ⟨Or.inl (tb_at 309 rfl rfl), ⟨tb_at 311 rfl rfl, tb_at 0 rfl rfl⟩, tb_at 45 rfl rfl, tb_at 312 rfl rfl, ⟨by decide, by decide⟩, by decide +kernel⟩
set_option maxRecDepth 100000 in
theorem lk_ST_156 : lk_V "SheetTrees" 156 y_ST_partsStillWanted b_ST_partsStillWanted 3 (some .int) 0 := ⟨Or.inl (tb_at 313 rfl rfl), ⟨tb_at 315 rfl rfl, tb_at 1 rfl rfl⟩, tb_at 45 rfl rfl, tb_at 316 rfl rfl, ⟨by decide, by decide⟩, by decide +kernel⟩
set_option maxRecDepth 100000 in
theorem lk_ST_145 : lk_V "SheetTrees" 145 y_TB_fill b_TB_fill 5 none 3 := ⟨Or.inr ⟨"SheetTrees", tb_at 317 rfl rfl⟩, ⟨tb_at 319 rfl rfl, tb_at 2 rfl rfl⟩, tb_at 47 rfl rfl, tb_at 320 rfl rfl, ⟨by decide, by decide⟩, by decide +kernel⟩
set_option maxRecDepth 100000 in
theorem lk_TB_28 : lk_V "SheetTrees$Tables" 28 y_TB_fillWithoutCuts b_TB_fillWithoutCuts 3 none 1 := ⟨Or.inl (tb_at 321 rfl rfl), ⟨tb_at 323 rfl rfl, tb_at 3 rfl rfl⟩, tb_at 47 rfl rfl, tb_at 324 rfl rfl, ⟨by decide, by decide⟩, by decide +kernel⟩
set_option maxRecDepth 100000 in
theorem lk_TB_50 : lk_S "SheetTrees$Tables" 50 y_AR_fill b_AR_fill 4 none 2 := ⟨Or.inl (tb_at 325 rfl rfl), tb_at 326 rfl rfl, tb_at 59 rfl rfl, tb_at 327 rfl rfl, ⟨by decide, by decide⟩, by decide +kernel⟩
set_option maxRecDepth 100000 in
theorem lk_TB_64 : lk_V "SheetTrees$Tables" 64 y_TB_putPart b_TB_putPart 5 none 3 := ⟨Or.inl (tb_at 328 rfl rfl), ⟨tb_at 330 rfl rfl, tb_at 4 rfl rfl⟩, tb_at 47 rfl rfl, tb_at 331 rfl rfl, ⟨by decide, by decide⟩, by decide +kernel⟩
set_option maxRecDepth 100000 in
theorem lk_TB_40 : lk_S "SheetTrees$Tables" 40 y_TB_placeOf b_TB_placeOf 4 (some .int) 4 := ⟨Or.inl (tb_at 332 rfl rfl), tb_at 333 rfl rfl, tb_at 47 rfl rfl, tb_at 334 rfl rfl, ⟨by decide, by decide⟩, by decide +kernel⟩
set_option maxRecDepth 100000 in
theorem lk_TB_72 : lk_V "SheetTrees$Tables" 72 y_TB_put b_TB_put 4 none 3 := ⟨Or.inl (tb_at 335 rfl rfl), ⟨tb_at 337 rfl rfl, tb_at 5 rfl rfl⟩, tb_at 47 rfl rfl, tb_at 338 rfl rfl, ⟨by decide, by decide⟩, by decide +kernel⟩
set_option maxRecDepth 100000 in
theorem lk_TB_32 : lk_V "SheetTrees$Tables" 32 y_TB_fillStage b_TB_fillStage 4 none 1 := ⟨Or.inl (tb_at 339 rfl rfl), ⟨tb_at 341 rfl rfl, tb_at 6 rfl rfl⟩, tb_at 47 rfl rfl, tb_at 342 rfl rfl, ⟨by decide, by decide⟩, by decide +kernel⟩
set_option maxRecDepth 100000 in
theorem lk_TB_75 : lk_V "SheetTrees$Tables" 75 y_TB_choose b_TB_choose 15 none 4 := ⟨Or.inl (tb_at 343 rfl rfl), ⟨tb_at 345 rfl rfl, tb_at 7 rfl rfl⟩, tb_at 47 rfl rfl, tb_at 346 rfl rfl, ⟨by decide, by decide⟩, by decide +kernel⟩
set_option maxRecDepth 100000 in
theorem lk_TB_43 : lk_V "SheetTrees$Tables" 43 y_TB_scoreAt b_TB_scoreAt 2 (some .int) 1 := ⟨Or.inl (tb_at 347 rfl rfl), ⟨tb_at 349 rfl rfl, tb_at 8 rfl rfl⟩, tb_at 47 rfl rfl, tb_at 350 rfl rfl, ⟨by decide, by decide⟩, by decide +kernel⟩
set_option maxRecDepth 100000 in
theorem lk_TB_47 : lk_V "SheetTrees$Tables" 47 y_TB_choiceAt b_TB_choiceAt 2 (some .int) 1 := ⟨Or.inl (tb_at 351 rfl rfl), ⟨tb_at 353 rfl rfl, tb_at 9 rfl rfl⟩, tb_at 47 rfl rfl, tb_at 354 rfl rfl, ⟨by decide, by decide⟩, by decide +kernel⟩
set_option maxRecDepth 100000 in
theorem lk_TB_79 : lk_S "SheetTrees$Tables" 79 y_MA_max b_MA_max 2 (some .int) 2 := ⟨Or.inl (tb_at 355 rfl rfl), tb_at 82 rfl rfl, tb_at 46 rfl rfl, tb_at 83 rfl rfl, ⟨by decide, by decide⟩, by decide +kernel⟩
set_option maxRecDepth 100000 in
theorem lk_ST_159 : lk_V "SheetTrees" 159 y_ST_bestSheet b_ST_bestSheet 7 (some .int) 0 := ⟨Or.inl (tb_at 356 rfl rfl), ⟨tb_at 358 rfl rfl, tb_at 10 rfl rfl⟩, tb_at 45 rfl rfl, tb_at 359 rfl rfl, ⟨by decide, by decide⟩, by decide +kernel⟩
set_option maxRecDepth 100000 in
theorem lk_ST_250 : lk_V "SheetTrees" 250 y_LY_lay b_LY_lay 5 none 2 := ⟨Or.inr ⟨"SheetTrees", tb_at 360 rfl rfl⟩, ⟨tb_at 362 rfl rfl, tb_at 11 rfl rfl⟩, tb_at 48 rfl rfl, tb_at 363 rfl rfl, ⟨by decide, by decide⟩, by decide +kernel⟩
set_option maxRecDepth 100000 in
theorem lk_LY_35 : lk_S "SheetTrees$Layout" 35 y_AR_fill b_AR_fill 4 none 2 := ⟨Or.inl (tb_at 364 rfl rfl), tb_at 326 rfl rfl, tb_at 59 rfl rfl, tb_at 327 rfl rfl, ⟨by decide, by decide⟩, by decide +kernel⟩
set_option maxRecDepth 100000 in
theorem lk_LY_49 : lk_V "SheetTrees$Layout" 49 y_TB_scoreOf b_TB_scoreOf 5 (some .int) 4 := ⟨Or.inr ⟨"SheetTrees", tb_at 365 rfl rfl⟩, ⟨tb_at 367 rfl rfl, tb_at 12 rfl rfl⟩, tb_at 47 rfl rfl, tb_at 368 rfl rfl, ⟨by decide, by decide⟩, by decide +kernel⟩
set_option maxRecDepth 100000 in
theorem lk_LY_55 : lk_V "SheetTrees$Layout" 55 y_LY_layTree b_LY_layTree 17 none 6 := ⟨Or.inl (tb_at 369 rfl rfl), ⟨tb_at 371 rfl rfl, tb_at 13 rfl rfl⟩, tb_at 48 rfl rfl, tb_at 372 rfl rfl, ⟨by decide, by decide⟩, by decide +kernel⟩
set_option maxRecDepth 100000 in
theorem lk_LY_59 : lk_V "SheetTrees$Layout" 59 y_TB_choiceOf b_TB_choiceOf 5 (some .int) 4 := ⟨Or.inr ⟨"SheetTrees", tb_at 373 rfl rfl⟩, ⟨tb_at 375 rfl rfl, tb_at 14 rfl rfl⟩, tb_at 47 rfl rfl, tb_at 376 rfl rfl, ⟨by decide, by decide⟩, by decide +kernel⟩
set_option maxRecDepth 100000 in
theorem lk_LY_62 : lk_S "SheetTrees$Layout" 62 y_PI_of b_PI_of 5 (some .int) 5 := ⟨Or.inr ⟨"SheetTrees", tb_at 377 rfl rfl⟩, tb_at 378 rfl rfl, tb_at 60 rfl rfl, tb_at 379 rfl rfl, ⟨by decide, by decide⟩, by decide +kernel⟩
set_option maxRecDepth 100000 in
theorem lk_LY_68 : lk_V "SheetTrees$Layout" 68 y_LY_addPiece b_LY_addPiece 3 none 2 := ⟨Or.inl (tb_at 380 rfl rfl), ⟨tb_at 382 rfl rfl, tb_at 15 rfl rfl⟩, tb_at 48 rfl rfl, tb_at 383 rfl rfl, ⟨by decide, by decide⟩, by decide +kernel⟩
set_option maxRecDepth 100000 in
theorem lk_ST_254 : lk_V "SheetTrees" 254 y_LY_areaToTake b_LY_areaToTake 4 (some .int) 1 := ⟨Or.inr ⟨"SheetTrees", tb_at 384 rfl rfl⟩, ⟨tb_at 386 rfl rfl, tb_at 16 rfl rfl⟩, tb_at 48 rfl rfl, tb_at 387 rfl rfl, ⟨by decide, by decide⟩, by decide +kernel⟩
set_option maxRecDepth 100000 in
theorem lk_LY_80 : lk_S "SheetTrees$Layout" 80 y_MA_min b_MA_min 2 (some .int) 2 := ⟨Or.inl (tb_at 388 rfl rfl), tb_at 79 rfl rfl, tb_at 46 rfl rfl, tb_at 80 rfl rfl, ⟨by decide, by decide⟩, by decide +kernel⟩
set_option maxRecDepth 100000 in
theorem lk_LY_86 : lk_V "SheetTrees$Layout" 86 y_PA_area b_PA_area 1 (some .int) 0 := ⟨Or.inr ⟨"SheetTrees", tb_at 389 rfl rfl⟩, ⟨tb_at 391 rfl rfl, tb_at 17 rfl rfl⟩, tb_at 50 rfl rfl, tb_at 392 rfl rfl, ⟨by decide, by decide⟩, by decide +kernel⟩
set_option maxRecDepth 100000 in
theorem lk_ST_162 : lk_V "SheetTrees" 162 y_ST_cutOneOf b_ST_cutOneOf 4 none 1 := ⟨Or.inl (tb_at 393 rfl rfl), ⟨tb_at 395 rfl rfl, tb_at 18 rfl rfl⟩, tb_at 45 rfl rfl, tb_at 396 rfl rfl, ⟨by decide, by decide⟩, by decide +kernel⟩
set_option maxRecDepth 100000 in
theorem lk_ST_258 : lk_V "SheetTrees" 258 y_CS_start b_CS_start 4 none 3 := ⟨Or.inr ⟨"SheetTrees", tb_at 397 rfl rfl⟩, ⟨tb_at 399 rfl rfl, tb_at 19 rfl rfl⟩, tb_at 51 rfl rfl, tb_at 400 rfl rfl, ⟨by decide, by decide⟩, by decide +kernel⟩
set_option maxRecDepth 100000 in
theorem lk_CS_52 : lk_V "SheetTrees$CutSheet" 52 y_SH_area b_SH_area 1 (some .int) 0 := ⟨Or.inr ⟨"SheetTrees", tb_at 401 rfl rfl⟩, ⟨tb_at 403 rfl rfl, tb_at 20 rfl rfl⟩, tb_at 49 rfl rfl, tb_at 404 rfl rfl, ⟨by decide, by decide⟩, by decide +kernel⟩
set_option maxRecDepth 100000 in
theorem lk_CS_60 : lk_V "SheetTrees$CutSheet" 60 y_LY_partsUsed b_LY_partsUsed 3 (some .int) 0 := ⟨Or.inr ⟨"SheetTrees", tb_at 405 rfl rfl⟩, ⟨tb_at 407 rfl rfl, tb_at 21 rfl rfl⟩, tb_at 48 rfl rfl, tb_at 408 rfl rfl, ⟨by decide, by decide⟩, by decide +kernel⟩
set_option maxRecDepth 100000 in
theorem lk_ST_262 : lk_V "SheetTrees" 262 y_ST_takePieces b_ST_takePieces 5 none 1 := ⟨Or.inl (tb_at 409 rfl rfl), ⟨tb_at 411 rfl rfl, tb_at 22 rfl rfl⟩, tb_at 45 rfl rfl, tb_at 412 rfl rfl, ⟨by decide, by decide⟩, by decide +kernel⟩
set_option maxRecDepth 100000 in
theorem lk_ST_205 : lk_S "SheetTrees" 205 y_PI_field b_PI_field 2 (some .int) 2 := ⟨Or.inr ⟨"SheetTrees", tb_at 413 rfl rfl⟩, tb_at 414 rfl rfl, tb_at 60 rfl rfl, tb_at 415 rfl rfl, ⟨by decide, by decide⟩, by decide +kernel⟩
set_option maxRecDepth 100000 in
theorem lk_ST_275 : lk_V "SheetTrees" 275 y_ST_keepRest b_ST_keepRest 2 none 1 := ⟨Or.inl (tb_at 416 rfl rfl), ⟨tb_at 418 rfl rfl, tb_at 23 rfl rfl⟩, tb_at 45 rfl rfl, tb_at 419 rfl rfl, ⟨by decide, by decide⟩, by decide +kernel⟩
set_option maxRecDepth 100000 in
theorem lk_ST_282 : lk_S "SheetTrees" 282 y_PI_isAtLeast b_PI_isAtLeast 2 (some .boolean) 2 := ⟨Or.inr ⟨"SheetTrees", tb_at 420 rfl rfl⟩, tb_at 421 rfl rfl, tb_at 60 rfl rfl, tb_at 422 rfl rfl, ⟨by decide, by decide⟩, by decide +kernel⟩
set_option maxRecDepth 100000 in
theorem lk_PI_9 : lk_S "SheetTrees$Piece" 9 y_PI_field b_PI_field 2 (some .int) 2 := ⟨Or.inl (tb_at 423 rfl rfl), tb_at 414 rfl rfl, tb_at 60 rfl rfl, tb_at 415 rfl rfl, ⟨by decide, by decide⟩, by decide +kernel⟩
set_option maxRecDepth 100000 in
theorem lk_ST_278 : lk_V "SheetTrees" 278 y_ST_takePart b_ST_takePart 4 none 3 := ⟨Or.inl (tb_at 424 rfl rfl), ⟨tb_at 426 rfl rfl, tb_at 24 rfl rfl⟩, tb_at 45 rfl rfl, tb_at 427 rfl rfl, ⟨by decide, by decide⟩, by decide +kernel⟩
set_option maxRecDepth 100000 in
theorem lk_ST_237 : lk_V "SheetTrees" 237 y_PA_area b_PA_area 1 (some .int) 0 := ⟨Or.inr ⟨"SheetTrees", tb_at 428 rfl rfl⟩, ⟨tb_at 391 rfl rfl, tb_at 17 rfl rfl⟩, tb_at 50 rfl rfl, tb_at 392 rfl rfl, ⟨by decide, by decide⟩, by decide +kernel⟩
set_option maxRecDepth 100000 in
theorem lk_ST_266 : lk_V "SheetTrees" 266 y_ST_firstAlike b_ST_firstAlike 5 (some .int) 1 := ⟨Or.inl (tb_at 429 rfl rfl), ⟨tb_at 431 rfl rfl, tb_at 25 rfl rfl⟩, tb_at 45 rfl rfl, tb_at 432 rfl rfl, ⟨by decide, by decide⟩, by decide +kernel⟩
set_option maxRecDepth 100000 in
theorem lk_LW_100 : lk_V "SheetTreesLaw" 100 y_ST_bound b_ST_bound 4 (some .int) 0 := ⟨Or.inl (tb_at 433 rfl rfl), ⟨tb_at 434 rfl rfl, tb_at 435 rfl rfl⟩, tb_at 45 rfl rfl, tb_at 436 rfl rfl, ⟨by decide, by decide⟩, by decide +kernel⟩
set_option maxRecDepth 100000 in
theorem lk_ST_230 : lk_V "SheetTrees" 230 y_SH_area b_SH_area 1 (some .int) 0 := ⟨Or.inr ⟨"SheetTrees", tb_at 437 rfl rfl⟩, ⟨tb_at 403 rfl rfl, tb_at 20 rfl rfl⟩, tb_at 49 rfl rfl, tb_at 404 rfl rfl, ⟨by decide, by decide⟩, by decide +kernel⟩
set_option maxRecDepth 100000 in
theorem lk_LW_48 : lk_S "SheetTreesLaw" 48 y_LW_cell b_LW_cell 2 (some .int) 2 := ⟨Or.inl (tb_at 438 rfl rfl), tb_at 439 rfl rfl, tb_at 44 rfl rfl, tb_at 440 rfl rfl, ⟨by decide, by decide⟩, by decide +kernel⟩
set_option maxRecDepth 100000 in
theorem lk_LW_7 : lk_V "SheetTreesLaw" 7 y_ST_sheet b_ST_sheet 6 (some .int) 4 := ⟨Or.inl (tb_at 446 rfl rfl), ⟨tb_at 447 rfl rfl, tb_at 448 rfl rfl⟩, tb_at 45 rfl rfl, tb_at 449 rfl rfl, ⟨by decide, by decide⟩, by decide +kernel⟩
set_option maxRecDepth 100000 in
theorem lk_ST_85 : lk_S "SheetTrees" 85 y_ST_isSide b_ST_isSide 1 (some .boolean) 1 := ⟨Or.inl (tb_at 450 rfl rfl), tb_at 451 rfl rfl, tb_at 45 rfl rfl, tb_at 452 rfl rfl, ⟨by decide, by decide⟩, by decide +kernel⟩
set_option maxRecDepth 100000 in
theorem lk_ST_96 : lk_S "SheetTrees" 96 y_ST_isWithin b_ST_isWithin 3 (some .boolean) 3 := ⟨Or.inl (tb_at 453 rfl rfl), tb_at 454 rfl rfl, tb_at 45 rfl rfl, tb_at 455 rfl rfl, ⟨by decide, by decide⟩, by decide +kernel⟩
set_option maxRecDepth 100000 in
theorem lk_LW_17 : lk_V "SheetTreesLaw" 17 y_ST_part b_ST_part 6 (some .int) 4 := ⟨Or.inl (tb_at 545 rfl rfl), ⟨tb_at 546 rfl rfl, tb_at 547 rfl rfl⟩, tb_at 45 rfl rfl, tb_at 548 rfl rfl, ⟨by decide, by decide⟩, by decide +kernel⟩
set_option maxRecDepth 100000 in
theorem lk_LW_21 : lk_V "SheetTreesLaw" 21 y_ST_count b_ST_count 5 (some .int) 2 := ⟨Or.inl (tb_at 555 rfl rfl), ⟨tb_at 556 rfl rfl, tb_at 557 rfl rfl⟩, tb_at 45 rfl rfl, tb_at 558 rfl rfl, ⟨by decide, by decide⟩, by decide +kernel⟩
set_option maxRecDepth 100000 in
theorem lk_ST_133 : lk_V "SheetTrees" 133 y_ST_partAt b_ST_partAt 2 (some (.object "SheetTrees$Part")) 1 := ⟨Or.inl (tb_at 559 rfl rfl), ⟨tb_at 561 rfl rfl, tb_at 27 rfl rfl⟩, tb_at 45 rfl rfl, tb_at 562 rfl rfl, ⟨by decide, by decide⟩, by decide +kernel⟩
set_option maxRecDepth 100000 in
theorem lk_LW_27 : lk_V "SheetTreesLaw" 27 y_ST_worth b_ST_worth 5 (some .int) 4 := ⟨Or.inl (tb_at 582 rfl rfl), ⟨tb_at 583 rfl rfl, tb_at 584 rfl rfl⟩, tb_at 45 rfl rfl, tb_at 585 rfl rfl, ⟨by decide, by decide⟩, by decide +kernel⟩
set_option maxRecDepth 100000 in
theorem lk_ST_141 : lk_V "SheetTrees" 141 y_ST_partsTold b_ST_partsTold 3 (some .int) 0 := ⟨Or.inl (tb_at 588 rfl rfl), ⟨tb_at 590 rfl rfl, tb_at 28 rfl rfl⟩, tb_at 45 rfl rfl, tb_at 591 rfl rfl, ⟨by decide, by decide⟩, by decide +kernel⟩
set_option maxRecDepth 100000 in
theorem lk_ST_149 : lk_V "SheetTrees" 149 y_TB_valueOf b_TB_valueOf 5 (some .int) 4 := ⟨Or.inr ⟨"SheetTrees", tb_at 592 rfl rfl⟩, ⟨tb_at 594 rfl rfl, tb_at 29 rfl rfl⟩, tb_at 47 rfl rfl, tb_at 595 rfl rfl, ⟨by decide, by decide⟩, by decide +kernel⟩
set_option maxRecDepth 100000 in
theorem lk_TB_36 : lk_V "SheetTrees$Tables" 36 y_TB_scoreOf b_TB_scoreOf 5 (some .int) 4 := ⟨Or.inl (tb_at 596 rfl rfl), ⟨tb_at 367 rfl rfl, tb_at 12 rfl rfl⟩, tb_at 47 rfl rfl, tb_at 368 rfl rfl, ⟨by decide, by decide⟩, by decide +kernel⟩
set_option maxRecDepth 100000 in
theorem lk_LW_30 : lk_V "SheetTreesLaw" 30 y_ST_cut b_ST_cut 4 (some .int) 2 := ⟨Or.inl (tb_at 600 rfl rfl), ⟨tb_at 601 rfl rfl, tb_at 602 rfl rfl⟩, tb_at 45 rfl rfl, tb_at 603 rfl rfl, ⟨by decide, by decide⟩, by decide +kernel⟩
set_option maxRecDepth 100000 in
theorem lk_ST_165 : lk_V "SheetTrees" 165 y_ST_cutSheetAt b_ST_cutSheetAt 2 (some (.object "SheetTrees$CutSheet")) 1 := ⟨Or.inl (tb_at 604 rfl rfl), ⟨tb_at 606 rfl rfl, tb_at 30 rfl rfl⟩, tb_at 45 rfl rfl, tb_at 607 rfl rfl, ⟨by decide, by decide⟩, by decide +kernel⟩
set_option maxRecDepth 100000 in
theorem lk_ST_218 : lk_V "SheetTrees" 218 y_ST_needRun b_ST_needRun 1 none 0 := ⟨Or.inl (tb_at 608 rfl rfl), ⟨tb_at 610 rfl rfl, tb_at 31 rfl rfl⟩, tb_at 45 rfl rfl, tb_at 611 rfl rfl, ⟨by decide, by decide⟩, by decide +kernel⟩
set_option maxRecDepth 100000 in
theorem lk_LW_33 : lk_V "SheetTreesLaw" 33 y_ST_taken b_ST_taken 5 (some .int) 3 := ⟨Or.inl (tb_at 618 rfl rfl), ⟨tb_at 619 rfl rfl, tb_at 620 rfl rfl⟩, tb_at 45 rfl rfl, tb_at 621 rfl rfl, ⟨by decide, by decide⟩, by decide +kernel⟩
set_option maxRecDepth 100000 in
theorem lk_ST_201 : lk_S "SheetTrees" 201 y_ST_pieceAt b_ST_pieceAt 2 (some .int) 2 := ⟨Or.inl (tb_at 624 rfl rfl), tb_at 625 rfl rfl, tb_at 45 rfl rfl, tb_at 626 rfl rfl, ⟨by decide, by decide⟩, by decide +kernel⟩
set_option maxRecDepth 100000 in
theorem lk_LW_37 : lk_V "SheetTreesLaw" 37 y_ST_rest b_ST_rest 5 (some .int) 3 := ⟨Or.inl (tb_at 630 rfl rfl), ⟨tb_at 631 rfl rfl, tb_at 632 rfl rfl⟩, tb_at 45 rfl rfl, tb_at 633 rfl rfl, ⟨by decide, by decide⟩, by decide +kernel⟩
set_option maxRecDepth 100000 in
theorem lk_LW_40 : lk_V "SheetTreesLaw" 40 y_ST_left b_ST_left 2 (some .int) 1 := ⟨Or.inl (tb_at 639 rfl rfl), ⟨tb_at 640 rfl rfl, tb_at 641 rfl rfl⟩, tb_at 45 rfl rfl, tb_at 642 rfl rfl, ⟨by decide, by decide⟩, by decide +kernel⟩
set_option maxRecDepth 100000 in
theorem lk_LW_44 : lk_V "SheetTreesLaw" 44 y_ST_all b_ST_all 6 (some .long) 1 := ⟨Or.inl (tb_at 646 rfl rfl), ⟨tb_at 647 rfl rfl, tb_at 648 rfl rfl⟩, tb_at 45 rfl rfl, tb_at 649 rfl rfl, ⟨by decide, by decide⟩, by decide +kernel⟩
set_option maxRecDepth 100000 in
theorem lk_LW_59 : lk_I "SheetTreesLaw" 59 y_MO_init b_MO_init 4 3 := ⟨Or.inl (tb_at 653 rfl rfl), ⟨tb_at 654 rfl rfl, rfl⟩, tb_at 52 rfl rfl, tb_at 655 rfl rfl, ⟨by decide, by decide⟩, by decide +kernel⟩
set_option maxRecDepth 100000 in
theorem lk_LW_64 : lk_V "SheetTreesLaw" 64 y_MO_thrown b_MO_thrown 1 (some .int) 0 := ⟨Or.inl (tb_at 761 rfl rfl), ⟨tb_at 762 rfl rfl, tb_at 763 rfl rfl⟩, tb_at 52 rfl rfl, tb_at 764 rfl rfl, ⟨by decide, by decide⟩, by decide +kernel⟩
set_option maxRecDepth 100000 in
theorem lk_LW_63 : lk_V "SheetTreesLaw" 63 y_MO_sheet b_MO_sheet 5 (some .int) 4 := ⟨Or.inl (tb_at 765 rfl rfl), ⟨tb_at 766 rfl rfl, tb_at 767 rfl rfl⟩, tb_at 52 rfl rfl, tb_at 768 rfl rfl, ⟨by decide, by decide⟩, by decide +kernel⟩
set_option maxRecDepth 100000 in
theorem lk_MO_102 : lk_S "SheetTreesModel" 102 y_MO_in b_MO_in 3 (some .boolean) 3 := ⟨Or.inl (tb_at 769 rfl rfl), tb_at 770 rfl rfl, tb_at 52 rfl rfl, tb_at 771 rfl rfl, ⟨by decide, by decide⟩, by decide +kernel⟩
set_option maxRecDepth 100000 in
theorem lk_LW_71 : lk_V "SheetTreesLaw" 71 y_MO_part b_MO_part 5 (some .int) 4 := ⟨Or.inl (tb_at 772 rfl rfl), ⟨tb_at 773 rfl rfl, tb_at 774 rfl rfl⟩, tb_at 52 rfl rfl, tb_at 775 rfl rfl, ⟨by decide, by decide⟩, by decide +kernel⟩
set_option maxRecDepth 100000 in
theorem lk_LW_75 : lk_V "SheetTreesLaw" 75 y_MO_count b_MO_count 4 (some .int) 2 := ⟨Or.inl (tb_at 776 rfl rfl), ⟨tb_at 777 rfl rfl, tb_at 778 rfl rfl⟩, tb_at 52 rfl rfl, tb_at 779 rfl rfl, ⟨by decide, by decide⟩, by decide +kernel⟩
set_option maxRecDepth 100000 in
theorem lk_LW_78 : lk_V "SheetTreesLaw" 78 y_MO_worth b_MO_worth 6 (some .int) 4 := ⟨Or.inl (tb_at 780 rfl rfl), ⟨tb_at 781 rfl rfl, tb_at 782 rfl rfl⟩, tb_at 52 rfl rfl, tb_at 783 rfl rfl, ⟨by decide, by decide⟩, by decide +kernel⟩
set_option maxRecDepth 100000 in
theorem lk_MO_130 : lk_V "SheetTreesModel" 130 y_MO_wantAll b_MO_wantAll 2 none 0 := ⟨Or.inl (tb_at 784 rfl rfl), ⟨tb_at 786 rfl rfl, tb_at 32 rfl rfl⟩, tb_at 52 rfl rfl, tb_at 787 rfl rfl, ⟨by decide, by decide⟩, by decide +kernel⟩
set_option maxRecDepth 100000 in
theorem lk_MO_133 : lk_V "SheetTreesModel" 133 y_MO_fill b_MO_fill 5 none 0 := ⟨Or.inl (tb_at 788 rfl rfl), ⟨tb_at 790 rfl rfl, tb_at 33 rfl rfl⟩, tb_at 52 rfl rfl, tb_at 791 rfl rfl, ⟨by decide, by decide⟩, by decide +kernel⟩
set_option maxRecDepth 100000 in
theorem lk_MO_127 : lk_V "SheetTreesModel" 127 y_MO_fillOne b_MO_fillOne 13 none 4 := ⟨Or.inl (tb_at 792 rfl rfl), ⟨tb_at 794 rfl rfl, tb_at 34 rfl rfl⟩, tb_at 52 rfl rfl, tb_at 795 rfl rfl, ⟨by decide, by decide⟩, by decide +kernel⟩
set_option maxRecDepth 100000 in
theorem lk_MO_116 : lk_S "SheetTreesModel" 116 y_MO_place b_MO_place 4 (some .int) 4 := ⟨Or.inl (tb_at 796 rfl rfl), tb_at 797 rfl rfl, tb_at 52 rfl rfl, tb_at 798 rfl rfl, ⟨by decide, by decide⟩, by decide +kernel⟩
set_option maxRecDepth 100000 in
theorem lk_MO_120 : lk_V "SheetTreesModel" 120 y_MO_isJust b_MO_isJust 4 (some .boolean) 3 := ⟨Or.inl (tb_at 799 rfl rfl), ⟨tb_at 801 rfl rfl, tb_at 35 rfl rfl⟩, tb_at 52 rfl rfl, tb_at 802 rfl rfl, ⟨by decide, by decide⟩, by decide +kernel⟩
set_option maxRecDepth 100000 in
theorem lk_MO_123 : lk_V "SheetTreesModel" 123 y_MO_better b_MO_better 5 none 4 := ⟨Or.inl (tb_at 803 rfl rfl), ⟨tb_at 805 rfl rfl, tb_at 36 rfl rfl⟩, tb_at 52 rfl rfl, tb_at 806 rfl rfl, ⟨by decide, by decide⟩, by decide +kernel⟩
set_option maxRecDepth 100000 in
theorem lk_LW_82 : lk_V "SheetTreesLaw" 82 y_MO_run b_MO_run 8 (some .int) 0 := ⟨Or.inl (tb_at 807 rfl rfl), ⟨tb_at 808 rfl rfl, tb_at 809 rfl rfl⟩, tb_at 52 rfl rfl, tb_at 810 rfl rfl, ⟨by decide, by decide⟩, by decide +kernel⟩
set_option maxRecDepth 100000 in
theorem lk_MO_155 : lk_V "SheetTreesModel" 155 y_MO_walk b_MO_walk 13 none 2 := ⟨Or.inl (tb_at 811 rfl rfl), ⟨tb_at 813 rfl rfl, tb_at 37 rfl rfl⟩, tb_at 52 rfl rfl, tb_at 814 rfl rfl, ⟨by decide, by decide⟩, by decide +kernel⟩
set_option maxRecDepth 100000 in
theorem lk_MO_136 : lk_V "SheetTreesModel" 136 y_MO_wayOf b_MO_wayOf 4 (some .int) 1 := ⟨Or.inl (tb_at 815 rfl rfl), ⟨tb_at 817 rfl rfl, tb_at 38 rfl rfl⟩, tb_at 52 rfl rfl, tb_at 818 rfl rfl, ⟨by decide, by decide⟩, by decide +kernel⟩
set_option maxRecDepth 100000 in
theorem lk_MO_140 : lk_V "SheetTreesModel" 140 y_MO_push b_MO_push 8 none 7 := ⟨Or.inl (tb_at 819 rfl rfl), ⟨tb_at 821 rfl rfl, tb_at 39 rfl rfl⟩, tb_at 52 rfl rfl, tb_at 822 rfl rfl, ⟨by decide, by decide⟩, by decide +kernel⟩
set_option maxRecDepth 100000 in
theorem lk_MO_144 : lk_V "SheetTreesModel" 144 y_MO_keepRest b_MO_keepRest 7 none 5 := ⟨Or.inl (tb_at 823 rfl rfl), ⟨tb_at 825 rfl rfl, tb_at 40 rfl rfl⟩, tb_at 52 rfl rfl, tb_at 826 rfl rfl, ⟨by decide, by decide⟩, by decide +kernel⟩
set_option maxRecDepth 100000 in
theorem lk_MO_148 : lk_V "SheetTreesModel" 148 y_MO_take b_MO_take 8 none 6 := ⟨Or.inl (tb_at 827 rfl rfl), ⟨tb_at 829 rfl rfl, tb_at 41 rfl rfl⟩, tb_at 52 rfl rfl, tb_at 830 rfl rfl, ⟨by decide, by decide⟩, by decide +kernel⟩
set_option maxRecDepth 100000 in
theorem lk_LW_85 : lk_V "SheetTreesLaw" 85 y_MO_cut b_MO_cut 4 (some .int) 2 := ⟨Or.inl (tb_at 831 rfl rfl), ⟨tb_at 832 rfl rfl, tb_at 833 rfl rfl⟩, tb_at 52 rfl rfl, tb_at 834 rfl rfl, ⟨by decide, by decide⟩, by decide +kernel⟩
set_option maxRecDepth 100000 in
theorem lk_MO_159 : lk_V "SheetTreesModel" 159 y_MO_look b_MO_look 4 none 3 := ⟨Or.inl (tb_at 835 rfl rfl), ⟨tb_at 837 rfl rfl, tb_at 42 rfl rfl⟩, tb_at 52 rfl rfl, tb_at 838 rfl rfl, ⟨by decide, by decide⟩, by decide +kernel⟩
set_option maxRecDepth 100000 in
theorem lk_MO_163 : lk_V "SheetTreesModel" 163 y_MO_isAlike b_MO_isAlike 5 (some .boolean) 2 := ⟨Or.inl (tb_at 839 rfl rfl), ⟨tb_at 841 rfl rfl, tb_at 43 rfl rfl⟩, tb_at 52 rfl rfl, tb_at 842 rfl rfl, ⟨by decide, by decide⟩, by decide +kernel⟩
set_option maxRecDepth 100000 in
theorem lk_LW_89 : lk_V "SheetTreesLaw" 89 y_MO_taken b_MO_taken 4 (some .int) 3 := ⟨Or.inl (tb_at 843 rfl rfl), ⟨tb_at 844 rfl rfl, tb_at 845 rfl rfl⟩, tb_at 52 rfl rfl, tb_at 846 rfl rfl, ⟨by decide, by decide⟩, by decide +kernel⟩
set_option maxRecDepth 100000 in
theorem lk_LW_92 : lk_V "SheetTreesLaw" 92 y_MO_rest b_MO_rest 4 (some .int) 3 := ⟨Or.inl (tb_at 847 rfl rfl), ⟨tb_at 848 rfl rfl, tb_at 849 rfl rfl⟩, tb_at 52 rfl rfl, tb_at 850 rfl rfl, ⟨by decide, by decide⟩, by decide +kernel⟩
set_option maxRecDepth 100000 in
theorem lk_LW_96 : lk_V "SheetTreesLaw" 96 y_MO_left b_MO_left 2 (some .int) 1 := ⟨Or.inl (tb_at 851 rfl rfl), ⟨tb_at 852 rfl rfl, tb_at 853 rfl rfl⟩, tb_at 52 rfl rfl, tb_at 854 rfl rfl, ⟨by decide, by decide⟩, by decide +kernel⟩
set_option maxRecDepth 100000 in
theorem lk_LW_99 : lk_V "SheetTreesLaw" 99 y_MO_all b_MO_all 6 (some .long) 1 := ⟨Or.inl (tb_at 855 rfl rfl), ⟨tb_at 856 rfl rfl, tb_at 857 rfl rfl⟩, tb_at 52 rfl rfl, tb_at 858 rfl rfl, ⟨by decide, by decide⟩, by decide +kernel⟩
set_option maxRecDepth 100000 in
theorem lk_LW_103 : lk_V "SheetTreesLaw" 103 y_MO_bound b_MO_bound 4 (some .int) 0 := ⟨Or.inl (tb_at 859 rfl rfl), ⟨tb_at 860 rfl rfl, tb_at 861 rfl rfl⟩, tb_at 52 rfl rfl, tb_at 862 rfl rfl, ⟨by decide, by decide⟩, by decide +kernel⟩
end
section
/-! Calls in a walk. sp_ok: the callee's picture wc ++ plc is cut out of ws ++ pl by the places 'is' (and the pool, or nothing of it). -/
def sp_ok (ws pl wc plc : va_W) (is : List Nat) : Prop := is.map (fun i => ws[i]?) = wc.map some ∧ va_nd is = true ∧ (plc = [] ∨ plc = pl)
theorem sp_P {D : va_G} {ws pl wc plc : va_W} {is : List Nat} {H : Heap} (h : sp_ok ws pl wc plc is) (hP : va_P D classes (ws ++ pl) H) : va_P D classes (wc ++ plc) H := by
  obtain ⟨h1, h2, h3⟩ := h
  have h4 := hP.part is h1
  rcases h3 with h3 | h3
  · subst h3
    rw [List.append_nil]
    exact va_pre h4
  · subst h3
    exact h4
theorem sp_D {A : Nat → Prop} {ws pl wc plc : va_W} {is : List Nat} (h : sp_ok ws pl wc plc is) (hD : va_D A (ws ++ pl)) : va_D A (wc ++ plc) := by
  obtain ⟨h1, h2, h3⟩ := h
  have h4 := hD.part is h2 h1
  rcases h3 with h3 | h3
  · subst h3
    rw [List.append_nil]
    exact va_dre h4
  · subst h3
    exact h4
def rc_ok (ws pl : va_W) (a : Nat) (C : String) : Prop := ∃ (q0 ci : Nat) (fs : List Value) (r : vw_C), (ws ++ pl)[q0]? = some (a, .inr (ci, fs)) ∧ classes[ci]? = some r ∧ r.1 = C
theorem rc_at {ws pl : va_W} {a ci : Nat} {C : String} {fs : List Value} {r : vw_C} (q0 : Nat) (h : ws[q0]? = some (a, .inr (ci, fs))) (hc : classes[ci]? = some r) (hC : r.1 = C) : rc_ok ws pl a C := ⟨q0, ci, fs, r, vv_at h, hc, hC⟩
theorem rc_pl {ws : va_W} {L : List Nat} {f : Nat → va_E} {a ci : Nat} {C : String} {fs : List Value} {r : vw_C} (hm : a ∈ L) (h : f a = .inr (ci, fs)) (hc : classes[ci]? = some r) (hC : r.1 = C) : rc_ok ws (va_pl L f) a C := by
  obtain ⟨q, hq⟩ := va_pl_get (X := ws) (f := f) hm
  exact ⟨q, ci, fs, r, by rw [hq, h], hc, hC⟩
theorem rc_use {D : va_G} {ws pl : va_W} {a : Nat} {C : String} {s : State} {H : Heap} {tys : List (ClassId × FieldType)} (h : rc_ok ws pl a C) (hK : va_K D classes tys s) (hP : va_P D classes (ws ++ pl) H) : ∃ cell : Cell, H[a]? = some cell ∧ cell.vm.isStatics = false ∧ s.vm.findClass C = some cell.cls := by
  obtain ⟨q0, ci, fs, r, h1, h2, h3⟩ := h
  subst h3
  exact va_recv hK hP h2 h1
/-- the callee's start -/
theorem cl_pre {X : cx_T} {M : ms_T} {av : List Value} {tys tc : List (ClassId × FieldType)} {ws pl wc plc : va_W} {is it : List Nat} {H : Heap} (C : cx_ok X M) (hsp : sp_ok ws pl wc plc is) (hit : it.filterMap (fun i => tys[i]?) = tc) (hK : va_K (cx_D X) classes tys (cx_s X)) (hP : va_P (cx_D X) classes (ws ++ pl) H) (hD : va_D (cx_B X) (ws ++ pl)) :
    ∀ U : State, U.heap = H → (cx_s X).WarmedH U.vm → va_Pc av (fun U => U.heap.size = H.size ∧ tb_ok U ∧ va_P (cx_D X) classes (wc ++ plc) U.heap ∧ va_K (cx_D X) classes tc U ∧ va_D (fun _ => True) (wc ++ plc)) av.toArray U := fun U hU hW =>
  ⟨rfl, by rw [hU], tb_moved hW C.2.2.2.2.1, by rw [hU]; exact sp_P hsp hP, va_K.moved hW.alike (hK.sub it hit), (sp_D hsp hD).weaken (fun _ _ _ _ => trivial)⟩
section VVC
variable {X : cx_T} {M : ms_T} {Q : State → Prop} {k n : Nat} {tys tc : List (ClassId × FieldType)} {ws pl wc plc wr : va_W} {lv : List (Option Value)} {st : List Value} {pc idx nL a : Nat} {rm : Room} {y : MethodName} {b : ByteArray} {rt : Option FieldType} {pst : Option Value → Prop} {post : Option Value → va_W → va_W → List (ClassId × FieldType) → Prop}
theorem pb_any {H : Heap} {locs : List Loc} {ls : Array Slot} {rest : List Value} {av : List Value} (C : cx_ok X M) (hz : rm.cells = 0 ∧ rm.slots = 0) (hK : va_K (cx_D X) classes tys (cx_s X)) (hP : va_P (cx_D X) classes (ws ++ pl) H) (hD : va_D (cx_B X) (ws ++ pl)) (hS : va_S (cx_A X) (cx_s X).heap H locs) (hl : lo_has ls M.2.1 lv)
    (hr : va_Run (cx_p X) (cx_l X) (cx_e X) M.2.2.2 (cx_s X) (cx_m X) (cx_a X) (cx_b X) (cx_M X) (cx_c X) H locs k n rm.cells rm.slots (F0 (cx_m X) pc ls st) rest (cp_Q H.size pst av.toArray) (fun q => H.size ≤ q))
    (kk : ∀ v, pst v → VV X M Q k n tys ws pl lv (v.toList ++ rest) (pc + 3)) : W (cx_p X) (cx_l X) (cx_e X) M.2.2.2 (cx_s X) (cx_m X) (cx_a X) (cx_b X) (cx_M X) (cx_c X) H locs k n Q (F0 (cx_m X) pc ls st) := by
  refine bh_any (B := fun v _ => pst v) (A0 := cx_A X) (A1 := fun q => H.size ≤ q) hr hS (fun q h1 h2 => by omega) (fun q h => (C.2.2.2.2.2.1 q (Nat.le_trans hS.1 h)).1) (fun v t H1 locs1 ht hvm hb hz1 hk1 hS1 => ?_)
  rw [hz.1, hz.2]
  exact kk v hb C H1 locs1 ls hK (hP.kept (fun j q hj => hk1 q.1 ((hP j q hj).lt) (by have := (hP j q hj).lt; omega))) hD hS1 hl
theorem mb_pl {H : Heap} {locs : List Loc} {ls : Array Slot} {rest : List Value} {av : List Value} {is ir : List Nat} (C : cx_ok X M) (hw : cx_w X) (hz : rm.cells = 0 ∧ rm.slots = 0) (hsp : is.map (fun i => ws[i]?) = wc.map some ∧ va_nd is = true) (hrs : ir.map (fun i => ws[i]?) = wr.map some ∧ va_nd ir = true ∧ ∀ i ∈ ir, i ∉ is) (hK : va_K (cx_D X) classes tys (cx_s X)) (hP : va_P (cx_D X) classes (ws ++ pl) H) (hD : va_D (cx_B X) (ws ++ pl)) (hS : va_S (cx_A X) (cx_s X).heap H locs) (hl : lo_has ls M.2.1 lv)
    (hr : va_Run (cx_p X) (cx_l X) (cx_e X) M.2.2.2 (cx_s X) (cx_m X) (cx_a X) (cx_b X) (cx_M X) (cx_c X) H locs k n rm.cells rm.slots (F0 (cx_m X) pc ls st) rest (cm_Q (cx_D X) (wc ++ pl) H.size post av.toArray) (va_A (wc ++ pl) H.size))
    (kk : ∀ v w1 p1 t1, post v w1 p1 t1 → VV X M Q k n tys (wr ++ w1) p1 lv (v.toList ++ rest) (pc + 3)) : W (cx_p X) (cx_l X) (cx_e X) M.2.2.2 (cx_s X) (cx_m X) (cx_a X) (cx_b X) (cx_M X) (cx_c X) H locs k n Q (F0 (cx_m X) pc ls st) := by
  have hF : ∀ q, va_A (wc ++ pl) H.size q → cx_B X q := fun q h => by
    rcases h with ⟨k2, e2, h⟩ | h
    · exact hD.2 _ (q, e2) (va_part is hsp.1 k2 _ h)
    · exact (C.2.2.2.2.2.1 q (Nat.le_trans hS.1 h)).2
  refine bh_any (B := cm_B (cx_D X) (wc ++ pl) H.size post) (A0 := cx_A X) (A1 := va_A (wc ++ pl) H.size) hr hS (fun q h1 h2 => hw _ (hF q h2)) (fun q h => hw _ (hF q h)) (fun v t H1 locs1 ht hvm hb hz1 hk1 hS1 => ?_)
  obtain ⟨w1, p1, t1, g1, g2, g3, g4⟩ := hb
  rw [ht] at g2
  rw [hz.1, hz.2]
  obtain ⟨j1, j2⟩ := va_joinP hP hD is ir hsp.1 hrs.1 hrs.2.1 hrs.2.2 hk1 hF g2 g3
  exact kk v w1 p1 t1 g1 C H1 locs1 ls hK j1 j2 hS1 hl
theorem mb_no {H : Heap} {locs : List Loc} {ls : Array Slot} {rest : List Value} {av : List Value} {is ir : List Nat} (C : cx_ok X M) (hw : cx_w X) (hz : rm.cells = 0 ∧ rm.slots = 0) (hsp : is.map (fun i => ws[i]?) = wc.map some ∧ va_nd is = true) (hrs : ir.map (fun i => ws[i]?) = wr.map some ∧ va_nd ir = true ∧ ∀ i ∈ ir, i ∉ is) (hK : va_K (cx_D X) classes tys (cx_s X)) (hP : va_P (cx_D X) classes (ws ++ pl) H) (hD : va_D (cx_B X) (ws ++ pl)) (hS : va_S (cx_A X) (cx_s X).heap H locs) (hl : lo_has ls M.2.1 lv)
    (hr : va_Run (cx_p X) (cx_l X) (cx_e X) M.2.2.2 (cx_s X) (cx_m X) (cx_a X) (cx_b X) (cx_M X) (cx_c X) H locs k n rm.cells rm.slots (F0 (cx_m X) pc ls st) rest (cm_Q (cx_D X) (wc ++ []) H.size post av.toArray) (va_A (wc ++ []) H.size))
    (kk : ∀ v w1 p1 t1, post v w1 p1 t1 → VV X M Q k n tys (wr ++ (w1 ++ p1)) pl lv (v.toList ++ rest) (pc + 3)) : W (cx_p X) (cx_l X) (cx_e X) M.2.2.2 (cx_s X) (cx_m X) (cx_a X) (cx_b X) (cx_M X) (cx_c X) H locs k n Q (F0 (cx_m X) pc ls st) := by
  rw [List.append_nil] at hr
  have hF : ∀ q, va_A wc H.size q → cx_B X q := fun q h => by
    rcases h with ⟨k2, e2, h⟩ | h
    · obtain ⟨i, h1, h2⟩ := va_in_of is hsp.1 h
      exact hD.2 i (q, e2) (vv_at h2)
    · exact (C.2.2.2.2.2.1 q (Nat.le_trans hS.1 h)).2
  refine bh_any (B := cm_B (cx_D X) wc H.size post) (A0 := cx_A X) (A1 := va_A wc H.size) hr hS (fun q h1 h2 => hw _ (hF q h2)) (fun q h => hw _ (hF q h)) (fun v t H1 locs1 ht hvm hb hz1 hk1 hS1 => ?_)
  obtain ⟨w1, p1, t1, g1, g2, g3, g4⟩ := hb
  rw [ht] at g2
  rw [hz.1, hz.2]
  obtain ⟨j1, j2⟩ := va_joinQ hP hD is ir hsp.1 hrs.1 hrs.2.1 hrs.2.2 hk1 hF g2 g3
  exact kk v w1 p1 t1 g1 C H1 locs1 ls hK j1 j2 hS1 hl

theorem vv_pV {As : List Value} (rest : List Value) (hM : CP (cx_l X) y b nL rt rm (.ref a :: As) (cx_D X) tc (wc ++ plc) pst) (hL : lk_V M.2.2.1 idx y b nL rt As.length) (hd : decode M.1 pc = .ok (.invokevirtual idx, 3)) (hst : As.reverse ++ .ref a :: rest = st) (hrc : rc_ok ws pl a y.cls) (is : List Nat) (hsp : sp_ok ws pl wc plc is) (it : List Nat) (hit : it.filterMap (fun i => tys[i]?) = tc) (hR : rm_ok M.2.2.2 rm nL k n rest) (hz : rm.cells = 0 ∧ rm.slots = 0) (kk : ∀ v, pst v → VV X M Q k n tys ws pl lv (v.toList ++ rest) (pc + 3)) : VV X M Q k n tys ws pl lv st pc := fun C H locs ls hK hP hD hS hl => by
  subst hst
  exact pb_any C hz hK hP hD hS hl (rn_V C hL (hM H.size) cm_blind (rc_use hrc hK hP) (cl_pre C hsp hit hK hP hD) hl.1 hR hd) kk
theorem vv_mV (hw : cx_w X) {As : List Value} (rest : List Value) (hM : CM (cx_l X) y b nL rt rm (.ref a :: As) (cx_D X) tc (wc ++ pl) post) (hL : lk_V M.2.2.1 idx y b nL rt As.length) (hd : decode M.1 pc = .ok (.invokevirtual idx, 3)) (hst : As.reverse ++ .ref a :: rest = st) (hrc : rc_ok ws pl a y.cls) (is ir : List Nat) (hsp : is.map (fun i => ws[i]?) = wc.map some ∧ va_nd is = true) (hrs : ir.map (fun i => ws[i]?) = wr.map some ∧ va_nd ir = true ∧ ∀ i ∈ ir, i ∉ is) (it : List Nat) (hit : it.filterMap (fun i => tys[i]?) = tc) (hR : rm_ok M.2.2.2 rm nL k n rest) (hz : rm.cells = 0 ∧ rm.slots = 0) (kk : ∀ v w1 p1 t1, post v w1 p1 t1 → VV X M Q k n tys (wr ++ w1) p1 lv (v.toList ++ rest) (pc + 3)) : VV X M Q k n tys ws pl lv st pc := fun C H locs ls hK hP hD hS hl => by
  subst hst
  exact mb_pl C hw hz hsp hrs hK hP hD hS hl (rn_V C hL (hM H.size) cm_blind (rc_use hrc hK hP) (cl_pre C (is := is) (plc := pl) ⟨hsp.1, hsp.2, Or.inr rfl⟩ hit hK hP hD) hl.1 hR hd) kk
theorem vv_nV (hw : cx_w X) {As : List Value} (rest : List Value) (hM : CM (cx_l X) y b nL rt rm (.ref a :: As) (cx_D X) tc (wc ++ []) post) (hL : lk_V M.2.2.1 idx y b nL rt As.length) (hd : decode M.1 pc = .ok (.invokevirtual idx, 3)) (hst : As.reverse ++ .ref a :: rest = st) (hrc : rc_ok ws pl a y.cls) (is ir : List Nat) (hsp : is.map (fun i => ws[i]?) = wc.map some ∧ va_nd is = true) (hrs : ir.map (fun i => ws[i]?) = wr.map some ∧ va_nd ir = true ∧ ∀ i ∈ ir, i ∉ is) (it : List Nat) (hit : it.filterMap (fun i => tys[i]?) = tc) (hR : rm_ok M.2.2.2 rm nL k n rest) (hz : rm.cells = 0 ∧ rm.slots = 0) (kk : ∀ v w1 p1 t1, post v w1 p1 t1 → VV X M Q k n tys (wr ++ (w1 ++ p1)) pl lv (v.toList ++ rest) (pc + 3)) : VV X M Q k n tys ws pl lv st pc := fun C H locs ls hK hP hD hS hl => by
  subst hst
  exact mb_no C hw hz hsp hrs hK hP hD hS hl (rn_V C hL (hM H.size) cm_blind (rc_use hrc hK hP) (cl_pre C (is := is) (plc := []) ⟨hsp.1, hsp.2, Or.inl rfl⟩ hit hK hP hD) hl.1 hR hd) kk
theorem vv_pS {As : List Value} (rest : List Value) (hM : CP (cx_l X) y b nL rt rm As (cx_D X) tc (wc ++ plc) pst) (hL : lk_S M.2.2.1 idx y b nL rt As.length) (hd : decode M.1 pc = .ok (.invokestatic idx, 3)) (hst : As.reverse ++ rest = st) (is : List Nat) (hsp : sp_ok ws pl wc plc is) (it : List Nat) (hit : it.filterMap (fun i => tys[i]?) = tc) (hR : rm_ok M.2.2.2 rm nL k n rest) (hz : rm.cells = 0 ∧ rm.slots = 0) (kk : ∀ v, pst v → VV X M Q k n tys ws pl lv (v.toList ++ rest) (pc + 3)) : VV X M Q k n tys ws pl lv st pc := fun C H locs ls hK hP hD hS hl => by
  subst hst
  exact pb_any C hz hK hP hD hS hl (rn_S C hL (hM H.size) cm_blind (cl_pre C hsp hit hK hP hD) hl.1 hR hd) kk
theorem vv_mS (hw : cx_w X) {As : List Value} (rest : List Value) (hM : CM (cx_l X) y b nL rt rm As (cx_D X) tc (wc ++ pl) post) (hL : lk_S M.2.2.1 idx y b nL rt As.length) (hd : decode M.1 pc = .ok (.invokestatic idx, 3)) (hst : As.reverse ++ rest = st) (is ir : List Nat) (hsp : is.map (fun i => ws[i]?) = wc.map some ∧ va_nd is = true) (hrs : ir.map (fun i => ws[i]?) = wr.map some ∧ va_nd ir = true ∧ ∀ i ∈ ir, i ∉ is) (it : List Nat) (hit : it.filterMap (fun i => tys[i]?) = tc) (hR : rm_ok M.2.2.2 rm nL k n rest) (hz : rm.cells = 0 ∧ rm.slots = 0) (kk : ∀ v w1 p1 t1, post v w1 p1 t1 → VV X M Q k n tys (wr ++ w1) p1 lv (v.toList ++ rest) (pc + 3)) : VV X M Q k n tys ws pl lv st pc := fun C H locs ls hK hP hD hS hl => by
  subst hst
  exact mb_pl C hw hz hsp hrs hK hP hD hS hl (rn_S C hL (hM H.size) cm_blind (cl_pre C (is := is) (plc := pl) ⟨hsp.1, hsp.2, Or.inr rfl⟩ hit hK hP hD) hl.1 hR hd) kk
theorem vv_nS (hw : cx_w X) {As : List Value} (rest : List Value) (hM : CM (cx_l X) y b nL rt rm As (cx_D X) tc (wc ++ []) post) (hL : lk_S M.2.2.1 idx y b nL rt As.length) (hd : decode M.1 pc = .ok (.invokestatic idx, 3)) (hst : As.reverse ++ rest = st) (is ir : List Nat) (hsp : is.map (fun i => ws[i]?) = wc.map some ∧ va_nd is = true) (hrs : ir.map (fun i => ws[i]?) = wr.map some ∧ va_nd ir = true ∧ ∀ i ∈ ir, i ∉ is) (it : List Nat) (hit : it.filterMap (fun i => tys[i]?) = tc) (hR : rm_ok M.2.2.2 rm nL k n rest) (hz : rm.cells = 0 ∧ rm.slots = 0) (kk : ∀ v w1 p1 t1, post v w1 p1 t1 → VV X M Q k n tys (wr ++ (w1 ++ p1)) pl lv (v.toList ++ rest) (pc + 3)) : VV X M Q k n tys ws pl lv st pc := fun C H locs ls hK hP hD hS hl => by
  subst hst
  exact mb_no C hw hz hsp hrs hK hP hD hS hl (rn_S C hL (hM H.size) cm_blind (cl_pre C (is := is) (plc := []) ⟨hsp.1, hsp.2, Or.inl rfl⟩ hit hK hP hD) hl.1 hR hd) kk
theorem vv_pI {As : List Value} (rest : List Value) (hM : CP (cx_l X) y b nL none rm (.ref a :: As) (cx_D X) tc (wc ++ plc) pst) (hL : lk_I M.2.2.1 idx y b nL As.length) (hd : decode M.1 pc = .ok (.invokespecial idx, 3)) (hst : As.reverse ++ .ref a :: rest = st) (is : List Nat) (hsp : sp_ok ws pl wc plc is) (it : List Nat) (hit : it.filterMap (fun i => tys[i]?) = tc) (hR : rm_ok M.2.2.2 rm nL k n rest) (hz : rm.cells = 0 ∧ rm.slots = 0) (kk : ∀ v, pst v → VV X M Q k n tys ws pl lv (v.toList ++ rest) (pc + 3)) : VV X M Q k n tys ws pl lv st pc := fun C H locs ls hK hP hD hS hl => by
  subst hst
  exact pb_any C hz hK hP hD hS hl (rn_I C hL (hM H.size) cm_blind (cl_pre C hsp hit hK hP hD) hl.1 hR hd) kk
theorem vv_mI (hw : cx_w X) {As : List Value} (rest : List Value) (hM : CM (cx_l X) y b nL none rm (.ref a :: As) (cx_D X) tc (wc ++ pl) post) (hL : lk_I M.2.2.1 idx y b nL As.length) (hd : decode M.1 pc = .ok (.invokespecial idx, 3)) (hst : As.reverse ++ .ref a :: rest = st) (is ir : List Nat) (hsp : is.map (fun i => ws[i]?) = wc.map some ∧ va_nd is = true) (hrs : ir.map (fun i => ws[i]?) = wr.map some ∧ va_nd ir = true ∧ ∀ i ∈ ir, i ∉ is) (it : List Nat) (hit : it.filterMap (fun i => tys[i]?) = tc) (hR : rm_ok M.2.2.2 rm nL k n rest) (hz : rm.cells = 0 ∧ rm.slots = 0) (kk : ∀ v w1 p1 t1, post v w1 p1 t1 → VV X M Q k n tys (wr ++ w1) p1 lv (v.toList ++ rest) (pc + 3)) : VV X M Q k n tys ws pl lv st pc := fun C H locs ls hK hP hD hS hl => by
  subst hst
  exact mb_pl C hw hz hsp hrs hK hP hD hS hl (rn_I C hL (hM H.size) cm_blind (cl_pre C (is := is) (plc := pl) ⟨hsp.1, hsp.2, Or.inr rfl⟩ hit hK hP hD) hl.1 hR hd) kk
theorem vv_nI (hw : cx_w X) {As : List Value} (rest : List Value) (hM : CM (cx_l X) y b nL none rm (.ref a :: As) (cx_D X) tc (wc ++ []) post) (hL : lk_I M.2.2.1 idx y b nL As.length) (hd : decode M.1 pc = .ok (.invokespecial idx, 3)) (hst : As.reverse ++ .ref a :: rest = st) (is ir : List Nat) (hsp : is.map (fun i => ws[i]?) = wc.map some ∧ va_nd is = true) (hrs : ir.map (fun i => ws[i]?) = wr.map some ∧ va_nd ir = true ∧ ∀ i ∈ ir, i ∉ is) (it : List Nat) (hit : it.filterMap (fun i => tys[i]?) = tc) (hR : rm_ok M.2.2.2 rm nL k n rest) (hz : rm.cells = 0 ∧ rm.slots = 0) (kk : ∀ v w1 p1 t1, post v w1 p1 t1 → VV X M Q k n tys (wr ++ (w1 ++ p1)) pl lv (v.toList ++ rest) (pc + 3)) : VV X M Q k n tys ws pl lv st pc := fun C H locs ls hK hP hD hS hl => by
  subst hst
  exact mb_no C hw hz hsp hrs hK hP hD hS hl (rn_I C hL (hM H.size) cm_blind (cl_pre C (is := is) (plc := []) ⟨hsp.1, hsp.2, Or.inl rfl⟩ hit hK hP hD) hl.1 hR hd) kk
end VVC
end
section
/-! Math.max, Math.min of ints -/
def lk_max (own : String) (idx : Nat) : Prop := Cond.methodLink own idx Lib.Math.max.name ∈ tb_l ∧ Cond.static Lib.Math.max.name ∈ tb_l ∧ Cond.initialized "java/lang/Math" ∈ tb_l ∧ Cond.code Lib.Math.max.name Lib.Math.max.code 2 (some .int) ∈ tb_l
def lk_min (own : String) (idx : Nat) : Prop := Cond.methodLink own idx Lib.Math.min.name ∈ tb_l ∧ Cond.static Lib.Math.min.name ∈ tb_l ∧ Cond.initialized "java/lang/Math" ∈ tb_l ∧ Cond.code Lib.Math.min.name Lib.Math.min.code 2 (some .int) ∈ tb_l
section VM
variable {X : cx_T} {M : ms_T} {Q : State → Prop} {k n : Nat} {tys : List (ClassId × FieldType)} {ws pl : va_W} {lv : List (Option Value)} {st : List Value} {pc idx : Nat}
theorem vv_mmax {a b : Int} (hd : decode M.1 pc = .ok (.invokestatic idx, 3)) (hL : lk_max M.2.2.1 idx) (h : (-2147483648 ≤ a ∧ a < 2147483648) ∧ -2147483648 ≤ b ∧ b < 2147483648) (hR : 1 ≤ M.2.2.2.frames ∧ (st.map fun v => v.category).sum + 13 ≤ M.2.2.2.locals ∧ k ≤ M.2.2.2.cells ∧ n ≤ M.2.2.2.slots) (kk : VV X M Q k n tys ws pl lv (.int (iI (max a b)) :: st) (pc + 3)) : VV X M Q k n tys ws pl lv (.int (iI b) :: .int (iI a) :: st) pc := fun C H locs ls hK hP hD hS hl => by
  have hts : ∀ w ∈ tb_l, w.before (cx_a X) (cx_s X) = true := fun w hw => C.2.2.2.2.1 w hw _
  refine va_mmax C.1 C.2.1 (by rw [C.2.2.1, hl.1]) C.2.2.2.1 (hts _ hL.1) (hts _ hL.2.1) (hts _ hL.2.2.1) (hts _ hL.2.2.2) hR.1 hR.2.1 hR.2.2.1 hR.2.2.2 hd ?_
  have e1 : (if iI a < iI b then iI b else iI a) = iI (max a b) := by
    by_cases hab : a < b
    · rw [if_pos ((iI_lt h.1.1 h.1.2 h.2.1 h.2.2).mpr hab), Int.max_eq_right (by omega)]
    · rw [if_neg (fun q => hab ((iI_lt h.1.1 h.1.2 h.2.1 h.2.2).mp q)), Int.max_eq_left (by omega)]
  rw [e1]
  exact kk C H locs ls hK hP hD hS hl
theorem vv_mmin {a b : Int} (hd : decode M.1 pc = .ok (.invokestatic idx, 3)) (hL : lk_min M.2.2.1 idx) (h : (-2147483648 ≤ a ∧ a < 2147483648) ∧ -2147483648 ≤ b ∧ b < 2147483648) (hR : 1 ≤ M.2.2.2.frames ∧ (st.map fun v => v.category).sum + 13 ≤ M.2.2.2.locals ∧ k ≤ M.2.2.2.cells ∧ n ≤ M.2.2.2.slots) (kk : VV X M Q k n tys ws pl lv (.int (iI (min a b)) :: st) (pc + 3)) : VV X M Q k n tys ws pl lv (.int (iI b) :: .int (iI a) :: st) pc := fun C H locs ls hK hP hD hS hl => by
  have hts : ∀ w ∈ tb_l, w.before (cx_a X) (cx_s X) = true := fun w hw => C.2.2.2.2.1 w hw _
  refine va_mmin C.1 C.2.1 (by rw [C.2.2.1, hl.1]) C.2.2.2.1 (hts _ hL.1) (hts _ hL.2.1) (hts _ hL.2.2.1) (hts _ hL.2.2.2) hR.1 hR.2.1 hR.2.2.1 hR.2.2.2 hd ?_
  have e1 : (if iI b < iI a then iI b else iI a) = iI (min a b) := by
    by_cases hab : b < a
    · rw [if_pos ((iI_lt h.2.1 h.2.2 h.1.1 h.1.2).mpr hab), Int.min_eq_right (by omega)]
    · rw [if_neg (fun q => hab ((iI_lt h.2.1 h.2.2 h.1.1 h.1.2).mp q)), Int.min_eq_left (by omega)]
  rw [e1]
  exact kk C H locs ls hK hP hD hS hl
/-- another name of the same picture -/
theorem vv_cast {ws' pl' : va_W} {lv' : List (Option Value)} {st' : List Value} (h1 : ws = ws') (h2 : pl = pl') (h3 : lv = lv') (h4 : st = st') (kk : VV X M Q k n tys ws' pl' lv' st' pc) : VV X M Q k n tys ws pl lv st pc := by
  subst h1; subst h2; subst h3; subst h4
  exact kk
/-- pooled objects -/
theorem vv_getP {L : List Nat} {f : Nat → va_E} {ci a j : Nat} {fs : List Value} {v : Value} (hd : decode M.1 pc = .ok (.getfield idx, 3)) (hm : a ∈ L) (he : f a = .inr (ci, fs)) (hf : fl_ok M.2.2.1 idx ci j) (hv : fs[j]? = some v) (kk : VV X M Q k n tys ws (va_pl L f) lv (v :: st) (pc + 3)) : VV X M Q k n tys ws (va_pl L f) lv (.ref a :: st) pc := fun C H locs ls hK hP hD hS hl => by
  obtain ⟨Cn, T, N, h1, h2, h3, h4, h5⟩ := hf
  have hts : ∀ w ∈ tb_l, w.before (cx_a X) (cx_s X) = true := fun w hw => C.2.2.2.2.1 w hw _
  obtain ⟨q0, hq⟩ := va_pl_get (X := ws) (f := f) hm
  rw [he] at hq
  rcases h4 with h4 | ⟨host, h4⟩
  · exact va_get C.1 C.2.1 hts h3 C.2.2.2.1 hK hP q0 hq h1 j h2 (hts _ h4) (fun x hx => by rw [h5] at hx; exact hx) hv hd (kk C H locs ls hK hP hD hS hl)
  · exact va_getN C.1 C.2.1 hts h3 C.2.2.2.1 hK hP q0 hq h1 j h2 (hts _ h4) (fun x hx => by rw [h5] at hx; exact hx) hv hd (kk C H locs ls hK hP hD hS hl)
theorem vv_putP (hw : cx_w X) {L : List Nat} {f : Nat → va_E} {ci a j : Nat} {fs : List Value} {v : Value} {ty : FieldType} (hd : decode M.1 pc = .ok (.putfield idx, 3)) (hm : a ∈ L) (he : f a = .inr (ci, fs)) (hf : fp_ok M.2.2.1 idx ci j ty) (hn : narrow ty v = v) (hfit : fits ty v = true) (hj : j < fs.length) (kk : VV X M Q k n tys ws (va_pl L (va_up f a (.inr (ci, fs.set j v)))) lv st (pc + 3)) : VV X M Q k n tys ws (va_pl L f) lv (v :: .ref a :: st) pc := fun C H locs ls hK hP hD hS hl => by
  obtain ⟨Cn, T, N, t, h1, h2, h3, h4, h5, h6, h7, h8, h9⟩ := hf
  have hts : ∀ w ∈ tb_l, w.before (cx_a X) (cx_s X) = true := fun w hw => C.2.2.2.2.1 w hw _
  obtain ⟨q0, hq⟩ := va_pl_get (X := ws) (f := f) hm
  have hset := va_pl_set (e := .inr (ci, fs.set j v)) hD hm hq
  have hD2 := hD.set (e := .inr (ci, fs.set j v)) hq
  rw [hset] at hD2
  rw [he] at hq
  rcases h4 with h4 | ⟨host, h4⟩
  · exact va_put C.1 C.2.1 hts h3 t h7 h8 C.2.2.2.1 hK hP (hD.weaken (fun _ _ _ h => hw _ h)) hS q0 hq h1 j h2 (hts _ h4) (fun x hx => by rw [h5] at hx; exact hx) h6 (by rw [h7 j h2, h9]) hn hfit hj hd (fun H1 locs1 hP1 hD1 hS1 => kk C H1 locs1 ls hK (by rw [← hset]; exact hP1) hD2 hS1 hl)
  · exact va_putN C.1 C.2.1 hts h3 t h7 h8 C.2.2.2.1 hK hP (hD.weaken (fun _ _ _ h => hw _ h)) hS q0 hq h1 j h2 (hts _ h4) (fun x hx => by rw [h5] at hx; exact hx) h6 (by rw [h7 j h2, h9]) hn hfit hj hd (fun H1 locs1 hP1 hD1 hS1 => kk C H1 locs1 ls hK (by rw [← hset]; exact hP1) hD2 hS1 hl)
end VM
set_option maxRecDepth 100000 in
theorem lm_ST_238 : lk_min "SheetTrees" 238 := ⟨tb_at 78 rfl rfl, tb_at 79 rfl rfl, tb_at 46 rfl rfl, tb_at 80 rfl rfl⟩
set_option maxRecDepth 100000 in
theorem lm_ST_232 : lk_max "SheetTrees" 232 := ⟨tb_at 81 rfl rfl, tb_at 82 rfl rfl, tb_at 46 rfl rfl, tb_at 83 rfl rfl⟩
set_option maxRecDepth 100000 in
theorem lm_TB_79 : lk_max "SheetTrees$Tables" 79 := ⟨tb_at 355 rfl rfl, tb_at 82 rfl rfl, tb_at 46 rfl rfl, tb_at 83 rfl rfl⟩
set_option maxRecDepth 100000 in
theorem lm_LY_80 : lk_min "SheetTrees$Layout" 80 := ⟨tb_at 388 rfl rfl, tb_at 79 rfl rfl, tb_at 46 rfl rfl, tb_at 80 rfl rfl⟩
end
section
/-! Tables: the readers. Pictures: the Tables object [kerf, scores, choices, wanted, stagesFilled] at a, its two rows. -/
abbrev rm_0 : Room := { frames := 0, cells := 0, slots := 0, locals := 0 }
abbrev rm_1 : Room := { frames := 1, cells := 0, slots := 0, locals := 64 }
abbrev ob_TB (a qs qc : Nat) (K W F : Int) : Nat × va_E := (a, .inr (4, [.int (iI K), .ref qs, .ref qc, .int (iI W), .int (iI F)]))
abbrev ar_I (q : Nat) (cA : ClassId) (N : Nat) (g : Nat → Int) : Nat × va_E := (q, .inl (cA, N, .inl (fun j => iI (g j))))
/-- the place of a piece in the tables -/
def pl_at (s d w h : Int) : Int := ((s * 2 + d) * 17 + w) * 17 + h
set_option maxHeartbeats 4000000 in
set_option maxRecDepth 100000 in
theorem c_TB_placeOf (l : Launch) (D : va_G) (s d w h : Int) : CP l y_TB_placeOf b_TB_placeOf 4 (some .int) rm_0 [.int (iI s), .int (iI d), .int (iI w), .int (iI h)] D [] ([] ++ []) (fun v => v = some (.int (iI (pl_at s d w h)))) := by
  refine cp_of (by decide) (Nat.le_of_ble_eq_true rfl) ?_
  intro X sz hl hr hD hA
  subst hD
  show VV X (b_TB_placeOf, 4, "SheetTrees$Tables", rm_0) _ 0 0 [] [] [] [some (.int (iI s)), some (.int (iI d)), some (.int (iI w)), some (.int (iI h))] [] 0
  refine vv_iload_n d_TB_placeOf_0 rfl ?_
  refine vv_iconst d_TB_placeOf_1 ?_
  refine vv_imul d_TB_placeOf_2 ?_
  refine vv_iload_n d_TB_placeOf_3 rfl ?_
  refine vv_iadd d_TB_placeOf_4 ?_
  refine vv_bipush d_TB_placeOf_5 (by decide +kernel) ?_
  refine vv_imul d_TB_placeOf_7 ?_
  refine vv_iload_n d_TB_placeOf_8 rfl ?_
  refine vv_iadd d_TB_placeOf_9 ?_
  refine vv_bipush d_TB_placeOf_10 (by decide +kernel) ?_
  refine vv_imul d_TB_placeOf_12 ?_
  refine vv_iload_n d_TB_placeOf_13 rfl ?_
  refine vv_iadd d_TB_placeOf_14 ?_
  exact vp_iret hA hr d_TB_placeOf_15 (by decide) (by decide) (by rfl)
def rd_scoreAt (g : Nat → Int) (z : Int) : Int := if 0 ≤ z ∧ z < 2312 then g z.toNat else 0
set_option maxHeartbeats 4000000 in
set_option maxRecDepth 100000 in
theorem c_TB_scoreAt (l : Launch) (D : va_G) (cI : ClassId) (a qs qc : Nat) (K W F z : Int) (g : Nat → Int) (hz : -2147483648 ≤ z ∧ z < 2147483648) : CP l y_TB_scoreAt b_TB_scoreAt 2 (some .int) rm_0 [.ref a, .int (iI z)] D [(cI, .int)] ([ob_TB a qs qc K W F, ar_I qs cI 2312 g] ++ []) (fun v => v = some (.int (iI (rd_scoreAt g z)))) := by
  refine cp_of (by decide) (Nat.le_of_ble_eq_true rfl) ?_
  intro X sz hl hr hD hA
  subst hD
  show VV X (b_TB_scoreAt, 2, "SheetTrees$Tables", rm_0) _ 0 0 [(cI, .int)] [ob_TB a qs qc K W F, ar_I qs cI 2312 g] [] [some (.ref a), some (.int (iI z))] [] 0
  refine vv_iload_n d_TB_scoreAt_0 rfl ?_
  refine vv_if_lt (tgt := 22) d_TB_scoreAt_1 (by decide) (by omega) (fun c1 => ?_) (fun c1 => ?_)
  · skip
    refine vv_iconst d_TB_scoreAt_22 ?_
    exact vp_iret hA hr d_TB_scoreAt_23 (by decide) (by decide) (by unfold rd_scoreAt; rw [if_neg (by omega)])
  · skip
    refine vv_iload_n d_TB_scoreAt_4 rfl ?_
    refine vv_aload_n d_TB_scoreAt_5 rfl ?_
    refine vv_get d_TB_scoreAt_6 0 rfl fl_TB_11 rfl ?_
    refine vv_alen d_TB_scoreAt_9 1 0 rfl rfl (v := 2312) rfl ?_
    refine vv_icmp_ge (tgt := 22) d_TB_scoreAt_10 (by decide) (by omega) (fun c10 => ?_) (fun c10 => ?_)
    · skip
      refine vv_iconst d_TB_scoreAt_22 ?_
      exact vp_iret hA hr d_TB_scoreAt_23 (by decide) (by decide) (by unfold rd_scoreAt; rw [if_neg (by omega)])
    · skip
      refine vv_aload_n d_TB_scoreAt_13 rfl ?_
      refine vv_get d_TB_scoreAt_14 0 rfl fl_TB_11 rfl ?_
      refine vv_iload_n d_TB_scoreAt_17 rfl ?_
      refine vv_iald d_TB_scoreAt_18 1 0 rfl rfl (by omega) ?_
      refine vv_goto (tgt := 23) d_TB_scoreAt_19 (by decide) ?_
      exact vp_iret hA hr d_TB_scoreAt_23 (by decide) (by decide) (by unfold rd_scoreAt; rw [if_pos (by omega)])
def rd_choiceAt (g : Nat → Int) (z : Int) : Int := if 0 ≤ z ∧ z < 2312 then g z.toNat else 8
set_option maxHeartbeats 4000000 in
set_option maxRecDepth 100000 in
theorem c_TB_choiceAt (l : Launch) (D : va_G) (cI : ClassId) (a qs qc : Nat) (K W F z : Int) (g : Nat → Int) (hz : -2147483648 ≤ z ∧ z < 2147483648) : CP l y_TB_choiceAt b_TB_choiceAt 2 (some .int) rm_0 [.ref a, .int (iI z)] D [(cI, .int)] ([ob_TB a qs qc K W F, ar_I qc cI 2312 g] ++ []) (fun v => v = some (.int (iI (rd_choiceAt g z)))) := by
  refine cp_of (by decide) (Nat.le_of_ble_eq_true rfl) ?_
  intro X sz hl hr hD hA
  subst hD
  show VV X (b_TB_choiceAt, 2, "SheetTrees$Tables", rm_0) _ 0 0 [(cI, .int)] [ob_TB a qs qc K W F, ar_I qc cI 2312 g] [] [some (.ref a), some (.int (iI z))] [] 0
  refine vv_iload_n d_TB_choiceAt_0 rfl ?_
  refine vv_if_lt (tgt := 22) d_TB_choiceAt_1 (by decide) (by omega) (fun c1 => ?_) (fun c1 => ?_)
  · skip
    refine vv_bipush d_TB_choiceAt_22 (by decide +kernel) ?_
    exact vp_iret hA hr d_TB_choiceAt_24 (by decide) (by decide) (by unfold rd_choiceAt; rw [if_neg (by omega)])
  · skip
    refine vv_iload_n d_TB_choiceAt_4 rfl ?_
    refine vv_aload_n d_TB_choiceAt_5 rfl ?_
    refine vv_get d_TB_choiceAt_6 0 rfl fl_TB_15 rfl ?_
    refine vv_alen d_TB_choiceAt_9 1 0 rfl rfl (v := 2312) rfl ?_
    refine vv_icmp_ge (tgt := 22) d_TB_choiceAt_10 (by decide) (by omega) (fun c10 => ?_) (fun c10 => ?_)
    · skip
      refine vv_bipush d_TB_choiceAt_22 (by decide +kernel) ?_
      exact vp_iret hA hr d_TB_choiceAt_24 (by decide) (by decide) (by unfold rd_choiceAt; rw [if_neg (by omega)])
    · skip
      refine vv_aload_n d_TB_choiceAt_13 rfl ?_
      refine vv_get d_TB_choiceAt_14 0 rfl fl_TB_15 rfl ?_
      refine vv_iload_n d_TB_choiceAt_17 rfl ?_
      refine vv_iald d_TB_choiceAt_18 1 0 rfl rfl (by omega) ?_
      refine vv_goto (tgt := 24) d_TB_choiceAt_19 (by decide) ?_
      exact vp_iret hA hr d_TB_choiceAt_24 (by decide) (by decide) (by unfold rd_choiceAt; rw [if_pos (by omega)])
set_option maxHeartbeats 4000000 in
set_option maxRecDepth 100000 in
theorem c_TB_scoreOf (l : Launch) (D : va_G) (cI : ClassId) (a qs qc : Nat) (K W F s d w h : Int) (g : Nat → Int) (hz : -2147483648 ≤ pl_at s d w h ∧ pl_at s d w h < 2147483648) : CP l y_TB_scoreOf b_TB_scoreOf 5 (some .int) rm_1 [.ref a, .int (iI s), .int (iI d), .int (iI w), .int (iI h)] D [(cI, .int)] ([ob_TB a qs qc K W F, ar_I qs cI 2312 g] ++ []) (fun v => v = some (.int (iI (rd_scoreAt g (pl_at s d w h))))) := by
  refine cp_of (by decide) (Nat.le_of_ble_eq_true rfl) ?_
  intro X sz hl hr hD hA
  subst hD
  show VV X (b_TB_scoreOf, 5, "SheetTrees$Tables", rm_1) _ 0 0 [(cI, .int)] [ob_TB a qs qc K W F, ar_I qs cI 2312 g] [] [some (.ref a), some (.int (iI s)), some (.int (iI d)), some (.int (iI w)), some (.int (iI h))] [] 0
  refine vv_aload_n d_TB_scoreOf_0 rfl ?_
  refine vv_iload_n d_TB_scoreOf_1 rfl ?_
  refine vv_iload_n d_TB_scoreOf_2 rfl ?_
  refine vv_iload_n d_TB_scoreOf_3 rfl ?_
  refine vv_iload d_TB_scoreOf_4 rfl ?_
  refine vv_pS (wc := []) (plc := []) [.ref a] (c_TB_placeOf (cx_l X) (cx_D X) s d w h) lk_TB_40 d_TB_scoreOf_6 rfl [] ⟨rfl, rfl, Or.inl rfl⟩ [] rfl ⟨⟨by decide, by decide⟩, ⟨by decide, by decide⟩, Nat.le_of_ble_eq_true rfl⟩ ⟨rfl, rfl⟩ ?_
  intro v hv
  subst hv
  dsimp only [Option.toList, List.cons_append, List.nil_append]
  refine vv_pV (wc := [ob_TB a qs qc K W F, ar_I qs cI 2312 g]) (plc := []) [] (c_TB_scoreAt (cx_l X) (cx_D X) cI a qs qc K W F (pl_at s d w h) g hz) lk_TB_43 d_TB_scoreOf_9 rfl (rc_at 0 rfl rfl rfl) [0, 1] ⟨rfl, rfl, Or.inl rfl⟩ [0] rfl ⟨⟨by decide, by decide⟩, ⟨by decide, by decide⟩, Nat.le_of_ble_eq_true rfl⟩ ⟨rfl, rfl⟩ ?_
  intro v hv
  subst hv
  dsimp only [Option.toList, List.cons_append, List.nil_append]
  exact vp_iret hA hr d_TB_scoreOf_12 (by decide) (by decide) (by rfl)
set_option maxHeartbeats 4000000 in
set_option maxRecDepth 100000 in
theorem c_TB_choiceOf (l : Launch) (D : va_G) (cI : ClassId) (a qs qc : Nat) (K W F s d w h : Int) (g : Nat → Int) (hz : -2147483648 ≤ pl_at s d w h ∧ pl_at s d w h < 2147483648) : CP l y_TB_choiceOf b_TB_choiceOf 5 (some .int) rm_1 [.ref a, .int (iI s), .int (iI d), .int (iI w), .int (iI h)] D [(cI, .int)] ([ob_TB a qs qc K W F, ar_I qc cI 2312 g] ++ []) (fun v => v = some (.int (iI (rd_choiceAt g (pl_at s d w h))))) := by
  refine cp_of (by decide) (Nat.le_of_ble_eq_true rfl) ?_
  intro X sz hl hr hD hA
  subst hD
  show VV X (b_TB_choiceOf, 5, "SheetTrees$Tables", rm_1) _ 0 0 [(cI, .int)] [ob_TB a qs qc K W F, ar_I qc cI 2312 g] [] [some (.ref a), some (.int (iI s)), some (.int (iI d)), some (.int (iI w)), some (.int (iI h))] [] 0
  refine vv_aload_n d_TB_choiceOf_0 rfl ?_
  refine vv_iload_n d_TB_choiceOf_1 rfl ?_
  refine vv_iload_n d_TB_choiceOf_2 rfl ?_
  refine vv_iload_n d_TB_choiceOf_3 rfl ?_
  refine vv_iload d_TB_choiceOf_4 rfl ?_
  refine vv_pS (wc := []) (plc := []) [.ref a] (c_TB_placeOf (cx_l X) (cx_D X) s d w h) lk_TB_40 d_TB_choiceOf_6 rfl [] ⟨rfl, rfl, Or.inl rfl⟩ [] rfl ⟨⟨by decide, by decide⟩, ⟨by decide, by decide⟩, Nat.le_of_ble_eq_true rfl⟩ ⟨rfl, rfl⟩ ?_
  intro v hv
  subst hv
  dsimp only [Option.toList, List.cons_append, List.nil_append]
  refine vv_pV (wc := [ob_TB a qs qc K W F, ar_I qc cI 2312 g]) (plc := []) [] (c_TB_choiceAt (cx_l X) (cx_D X) cI a qs qc K W F (pl_at s d w h) g hz) lk_TB_47 d_TB_choiceOf_9 rfl (rc_at 0 rfl rfl rfl) [0, 1] ⟨rfl, rfl, Or.inl rfl⟩ [0] rfl ⟨⟨by decide, by decide⟩, ⟨by decide, by decide⟩, Nat.le_of_ble_eq_true rfl⟩ ⟨rfl, rfl⟩ ?_
  intro v hv
  subst hv
  dsimp only [Option.toList, List.cons_append, List.nil_append]
  exact vp_iret hA hr d_TB_choiceOf_12 (by decide) (by decide) (by rfl)
end
section
/-! Arrays.fill, and Tables: what writes one place. -/
theorem ar_cg {q N : Nat} {cA : ClassId} {g h : Nat → Int} (e : ∀ j, g j = h j) : ar_I q cA N g = ar_I q cA N h := by rw [show g = h from funext e]
set_option maxHeartbeats 4000000 in
set_option maxRecDepth 100000 in
theorem c_AR_fill (l : Launch) (D : va_G) (cI : ClassId) (q N : Nat) (v : Int) (g : Nat → Int) (hN : N < 2147483648) : CM l y_AR_fill b_AR_fill 4 none rm_0 [.ref q, .int (iI v)] D [(cI, .int)] ([ar_I q cI N g] ++ []) (fun r w1 p1 _ => r = none ∧ w1 = [ar_I q cI N (fun j => if j < N then v else g j)] ∧ p1 = []) := by
  refine cm_of (by decide) (Nat.le_of_ble_eq_true rfl) ?_
  intro X sz hl hr hnm hD hA hw
  subst hD
  have loop : ∀ m i : Nat, i + m = N → VV X (b_AR_fill, 4, "java/util/Arrays", rm_0) (cq X ([ar_I q cI N g] ++ []) sz (fun r w1 p1 _ => r = none ∧ w1 = [ar_I q cI N (fun j => if j < N then v else g j)] ∧ p1 = []) rm_0) 0 0 [(cI, .int)] [ar_I q cI N (fun j => if j < i then v else g j)] [] [some (.ref q), some (.int (iI v)), some (.int (iI (i : Int))), some (.int (iI (N : Int)))] [] 5 := by
    intro m
    induction m with
    | zero =>
      intro i hi
      have hiN : i = N := by omega
      subst hiN
      refine vv_iload_n d_AR_fill_5 rfl ?_
      refine vv_iload_n d_AR_fill_6 rfl ?_
      refine vv_icmp_ge (tgt := 20) d_AR_fill_7 (by decide) (by omega) (fun c7 => ?_) (fun c7 => ?_)
      · exact vv_vret hA hw hr d_AR_fill_20 (by decide) (by decide) ⟨rfl, rfl, rfl⟩
      · omega
    | succ m ih =>
      intro i hi
      refine vv_iload_n d_AR_fill_5 rfl ?_
      refine vv_iload_n d_AR_fill_6 rfl ?_
      refine vv_icmp_ge (tgt := 20) d_AR_fill_7 (by decide) (by omega) (fun c7 => ?_) (fun c7 => ?_)
      · omega
      · skip
        refine vv_aload_n d_AR_fill_10 rfl ?_
        refine vv_iload_n d_AR_fill_11 rfl ?_
        refine vv_iload_n d_AR_fill_12 rfl ?_
        refine vv_iast hw d_AR_fill_13 0 0 rfl rfl (by omega) ?_
        dsimp only [List.set]
        refine vv_iinc d_AR_fill_14 rfl rfl (by decide) ?_
        dsimp only [List.set]
        refine vv_goto (tgt := 5) d_AR_fill_17 (by decide) ?_
        refine vv_cast (congrArg (fun x => [x]) (ar_cg (fun j => ?_))) rfl rfl rfl (ih (i + 1) (by omega))
        rw [Int.toNat_natCast]
        by_cases hj : j = i
        · subst hj
          simp [va_up]
        · by_cases hj2 : j < i
          · simp [va_up, hj, hj2, show j < i + 1 by omega]
          · simp [va_up, hj, hj2, show ¬ j < i + 1 by omega]
  show VV X (b_AR_fill, 4, "java/util/Arrays", rm_0) _ 0 0 [(cI, .int)] [ar_I q cI N g] [] [some (.ref q), some (.int (iI v)), none, none] [] 0
  refine vv_iconst d_AR_fill_0 ?_
  refine vv_istore_n d_AR_fill_1 rfl (by decide) ?_
  dsimp only [List.set]
  refine vv_aload_n d_AR_fill_2 rfl ?_
  refine vv_alen d_AR_fill_3 0 0 rfl rfl (v := (N : Int)) rfl ?_
  refine vv_istore_n d_AR_fill_4 rfl (by decide) ?_
  dsimp only [List.set]
  have h0 := loop N 0 (by omega)
  simp only [Nat.not_lt_zero, if_false] at h0
  exact h0
set_option maxHeartbeats 4000000 in
set_option maxRecDepth 100000 in
theorem c_TB_put (l : Launch) (D : va_G) (cI : ClassId) (a qs qc : Nat) (K W F z u x : Int) (sc ch : Nat → Int) (hz : 0 ≤ z ∧ z < 2312) : CM l y_TB_put b_TB_put 4 none rm_0 [.ref a, .int (iI z), .int (iI u), .int (iI x)] D [(cI, .int)] ([ob_TB a qs qc K W F, ar_I qs cI 2312 sc, ar_I qc cI 2312 ch] ++ []) (fun r w1 p1 _ => r = none ∧ w1 = [ob_TB a qs qc K W F, ar_I qs cI 2312 (va_up sc z.toNat u), ar_I qc cI 2312 (va_up ch z.toNat x)] ∧ p1 = []) := by
  refine cm_of (by decide) (Nat.le_of_ble_eq_true rfl) ?_
  intro X sz hl hr hnm hD hA hw
  subst hD
  show VV X (b_TB_put, 4, "SheetTrees$Tables", rm_0) _ 0 0 [(cI, .int)] [ob_TB a qs qc K W F, ar_I qs cI 2312 sc, ar_I qc cI 2312 ch] [] [some (.ref a), some (.int (iI z)), some (.int (iI u)), some (.int (iI x))] [] 0
  refine vv_iload_n d_TB_put_0 rfl ?_
  refine vv_if_lt (tgt := 36) d_TB_put_1 (by decide) (by omega) (fun c1 => ?_) (fun c1 => ?_)
  · omega
  · skip
    refine vv_iload_n d_TB_put_4 rfl ?_
    refine vv_aload_n d_TB_put_5 rfl ?_
    refine vv_get d_TB_put_6 0 rfl fl_TB_11 rfl ?_
    refine vv_alen d_TB_put_9 1 0 rfl rfl (v := 2312) rfl ?_
    refine vv_icmp_ge (tgt := 36) d_TB_put_10 (by decide) (by omega) (fun c10 => ?_) (fun c10 => ?_)
    · omega
    · skip
      refine vv_iload_n d_TB_put_13 rfl ?_
      refine vv_aload_n d_TB_put_14 rfl ?_
      refine vv_get d_TB_put_15 0 rfl fl_TB_15 rfl ?_
      refine vv_alen d_TB_put_18 2 0 rfl rfl (v := 2312) rfl ?_
      refine vv_icmp_ge (tgt := 36) d_TB_put_19 (by decide) (by omega) (fun c19 => ?_) (fun c19 => ?_)
      · omega
      · skip
        refine vv_aload_n d_TB_put_22 rfl ?_
        refine vv_get d_TB_put_23 0 rfl fl_TB_11 rfl ?_
        refine vv_iload_n d_TB_put_26 rfl ?_
        refine vv_iload_n d_TB_put_27 rfl ?_
        refine vv_iast hw d_TB_put_28 1 0 rfl rfl (by omega) ?_
        dsimp only [List.set]
        refine vv_aload_n d_TB_put_29 rfl ?_
        refine vv_get d_TB_put_30 0 rfl fl_TB_15 rfl ?_
        refine vv_iload_n d_TB_put_33 rfl ?_
        refine vv_iload_n d_TB_put_34 rfl ?_
        refine vv_iast hw d_TB_put_35 2 0 rfl rfl (by omega) ?_
        dsimp only [List.set]
        exact vv_vret hA hw hr d_TB_put_36 (by decide) (by decide) (by exact ⟨rfl, rfl, rfl⟩)
end
section
/-! Tables: putPart, choose -/
abbrev rm_2 : Room := { frames := 2, cells := 0, slots := 0, locals := 128 }
theorem c_TB_placeZ (l : Launch) (D : va_G) (s d w h z : Int) (hz : pl_at s d w h = z) : CP l y_TB_placeOf b_TB_placeOf 4 (some .int) rm_0 [.int (iI s), .int (iI d), .int (iI w), .int (iI h)] D [] ([] ++ []) (fun v => v = some (.int (iI z))) := by
  subst hz
  exact c_TB_placeOf l D s d w h
set_option maxHeartbeats 4000000 in
set_option maxRecDepth 100000 in
theorem c_TB_putPart (l : Launch) (D : va_G) (cI : ClassId) (a qs qc : Nat) (K W F p w h : Int) (sc ch : Nat → Int) (hw1 : 1 ≤ w ∧ w ≤ 16) (hh1 : 1 ≤ h ∧ h ≤ 16) : CM l y_TB_putPart b_TB_putPart 5 none rm_1 [.ref a, .int (iI p), .int (iI w), .int (iI h)] D [(cI, .int)] ([ob_TB a qs qc K W F, ar_I qs cI 2312 sc, ar_I qc cI 2312 ch] ++ []) (fun r w1 p1 _ => r = none ∧ w1 = [ob_TB a qs qc K W F, ar_I qs cI 2312 (va_up (va_up sc (pl_at 0 0 w h).toNat (w * h * 1024)) (pl_at 0 1 w h).toNat (w * h * 1024)), ar_I qc cI 2312 (va_up (va_up ch (pl_at 0 0 w h).toNat p) (pl_at 0 1 w h).toNat p)] ∧ p1 = []) := by
  refine cm_of (by decide) (Nat.le_of_ble_eq_true rfl) ?_
  intro X sz hl hr hnm hD hA hw
  subst hD
  show VV X (b_TB_putPart, 5, "SheetTrees$Tables", rm_1) _ 0 0 [(cI, .int)] [ob_TB a qs qc K W F, ar_I qs cI 2312 sc, ar_I qc cI 2312 ch] [] [some (.ref a), some (.int (iI p)), some (.int (iI w)), some (.int (iI h)), none] [] 0
  refine vv_iload_n d_TB_putPart_0 rfl ?_
  refine vv_iload_n d_TB_putPart_1 rfl ?_
  refine vv_imul d_TB_putPart_2 ?_
  refine vv_sipush d_TB_putPart_3 (by decide +kernel) ?_
  refine vv_imul d_TB_putPart_6 ?_
  refine vv_istore d_TB_putPart_7 rfl (by decide) ?_
  dsimp only [List.set]
  refine vv_aload_n d_TB_putPart_9 rfl ?_
  refine vv_iconst d_TB_putPart_10 ?_
  refine vv_iconst d_TB_putPart_11 ?_
  refine vv_iload_n d_TB_putPart_12 rfl ?_
  refine vv_iload_n d_TB_putPart_13 rfl ?_
  refine vv_pS (wc := []) (plc := []) [.ref a] (c_TB_placeZ (cx_l X) (cx_D X) 0 0 w h (pl_at 0 0 w h) rfl) lk_TB_40 d_TB_putPart_14 rfl [] ⟨rfl, rfl, Or.inl rfl⟩ [] rfl ⟨⟨by decide, by decide⟩, ⟨by decide, by decide⟩, Nat.le_of_ble_eq_true rfl⟩ ⟨rfl, rfl⟩ ?_
  intro v hv
  subst hv
  dsimp only [Option.toList, List.cons_append, List.nil_append, List.append_nil]
  refine vv_iload d_TB_putPart_17 rfl ?_
  refine vv_iload_n d_TB_putPart_19 rfl ?_
  refine vv_nV hw (wc := [ob_TB a qs qc K W F, ar_I qs cI 2312 sc, ar_I qc cI 2312 ch]) (wr := []) [] (c_TB_put (cx_l X) (cx_D X) cI a qs qc K W F (pl_at 0 0 w h) (w * h * 1024) p sc ch (by unfold pl_at; omega)) lk_TB_72 d_TB_putPart_20 rfl (rc_at 0 rfl rfl rfl) [0, 1, 2] [] ⟨rfl, rfl⟩ ⟨rfl, rfl, by decide⟩ [0] rfl ⟨⟨by decide, by decide⟩, ⟨by decide, by decide⟩, Nat.le_of_ble_eq_true rfl⟩ ⟨rfl, rfl⟩ ?_
  rintro v w1 p1 t1 ⟨rfl, rfl, rfl⟩
  dsimp only [Option.toList, List.cons_append, List.nil_append, List.append_nil]
  refine vv_aload_n d_TB_putPart_23 rfl ?_
  refine vv_iconst d_TB_putPart_24 ?_
  refine vv_iconst d_TB_putPart_25 ?_
  refine vv_iload_n d_TB_putPart_26 rfl ?_
  refine vv_iload_n d_TB_putPart_27 rfl ?_
  refine vv_pS (wc := []) (plc := []) [.ref a] (c_TB_placeZ (cx_l X) (cx_D X) 0 1 w h (pl_at 0 1 w h) rfl) lk_TB_40 d_TB_putPart_28 rfl [] ⟨rfl, rfl, Or.inl rfl⟩ [] rfl ⟨⟨by decide, by decide⟩, ⟨by decide, by decide⟩, Nat.le_of_ble_eq_true rfl⟩ ⟨rfl, rfl⟩ ?_
  intro v hv
  subst hv
  dsimp only [Option.toList, List.cons_append, List.nil_append, List.append_nil]
  refine vv_iload d_TB_putPart_31 rfl ?_
  refine vv_iload_n d_TB_putPart_33 rfl ?_
  refine vv_nV hw (wc := [ob_TB a qs qc K W F, ar_I qs cI 2312 (va_up sc (pl_at 0 0 w h).toNat (w * h * 1024)), ar_I qc cI 2312 (va_up ch (pl_at 0 0 w h).toNat p)]) (wr := []) [] (c_TB_put (cx_l X) (cx_D X) cI a qs qc K W F (pl_at 0 1 w h) (w * h * 1024) p (va_up sc (pl_at 0 0 w h).toNat (w * h * 1024)) (va_up ch (pl_at 0 0 w h).toNat p) (by unfold pl_at; omega)) lk_TB_72 d_TB_putPart_34 rfl (rc_at 0 rfl rfl rfl) [0, 1, 2] [] ⟨rfl, rfl⟩ ⟨rfl, rfl, by decide⟩ [0] rfl ⟨⟨by decide, by decide⟩, ⟨by decide, by decide⟩, Nat.le_of_ble_eq_true rfl⟩ ⟨rfl, rfl⟩ ?_
  rintro v w1 p1 t1 ⟨rfl, rfl, rfl⟩
  dsimp only [Option.toList, List.cons_append, List.nil_append, List.append_nil]
  exact vv_vret hA hw hr d_TB_putPart_37 (by decide) (by decide) (by exact ⟨rfl, rfl, rfl⟩)
/-- what a cut at c scores -/
def cz_v (sc : Nat → Int) (K fb sb st L c : Int) : Int := rd_scoreAt sc (fb + c * st) + rd_scoreAt sc (sb + max 0 (L - c - K) * st) - 1
/-- the best score and choice after the cuts 1 .. n -/
def cz (sc : Nat → Int) (K fb sb st L : Int) (p0 : Int × Int) : Nat → Int × Int
  | 0 => p0
  | n + 1 => if (cz sc K fb sb st L p0 n).1 < cz_v sc K fb sb st L ((n : Int) + 1) then (cz_v sc K fb sb st L ((n : Int) + 1), 8 + ((n : Int) + 1)) else cz sc K fb sb st L p0 n
def sc_bd (sc : Nat → Int) : Prop := ∀ z, 0 ≤ rd_scoreAt sc z ∧ rd_scoreAt sc z ≤ 1000000
theorem cz_bd {sc : Nat → Int} {K fb sb st L : Int} {p0 : Int × Int} (hb : sc_bd sc) (h0 : 0 ≤ p0.1 ∧ p0.1 ≤ 1000000) : ∀ n, 0 ≤ (cz sc K fb sb st L p0 n).1 ∧ (cz sc K fb sb st L p0 n).1 ≤ 2000000
  | 0 => by unfold cz; omega
  | n + 1 => by
    have ih := cz_bd (K := K) (fb := fb) (sb := sb) (st := st) (L := L) hb h0 n
    unfold cz
    have h1 := hb (fb + ((n : Int) + 1) * st)
    have h2 := hb (sb + max 0 (L - ((n : Int) + 1) - K) * st)
    split
    · rename_i h3
      show 0 ≤ cz_v _ _ _ _ _ _ _ ∧ cz_v _ _ _ _ _ _ _ ≤ 2000000
      unfold cz_v at h3 ⊢
      omega
    · exact ih
def ch_res (sc ch : Nat → Int) (K s d w h : Int) : Int × Int :=
  if d = 0 then cz sc K (pl_at (s - 1) (1 - 0) w h - w * 17) (pl_at s 0 w h - w * 17) 17 w (rd_scoreAt sc (pl_at 0 0 w h), rd_choiceAt ch (pl_at 0 0 w h)) (w - 1).toNat
  else cz sc K (pl_at (s - 1) (1 - 1) w h - h * 1) (pl_at s 1 w h - h * 1) 1 h (rd_scoreAt sc (pl_at 0 1 w h), rd_choiceAt ch (pl_at 0 1 w h)) (h - 1).toNat
set_option maxHeartbeats 4000000 in
set_option maxRecDepth 100000 in
theorem c_TB_choose0 (l : Launch) (D : va_G) (cI : ClassId) (a qs qc : Nat) (K W F s w h : Int) (sc ch : Nat → Int) (hK : 0 ≤ K ∧ K ≤ 3) (hs : 1 ≤ s ∧ s ≤ 3) (hw1 : 1 ≤ w ∧ w ≤ 16) (hh1 : 1 ≤ h ∧ h ≤ 16) (hb : sc_bd sc) : CM l y_TB_choose b_TB_choose 15 none rm_1 [.ref a, .int (iI s), .int (iI 0), .int (iI w), .int (iI h)] D [(cI, .int)] ([ob_TB a qs qc K W F, ar_I qs cI 2312 sc, ar_I qc cI 2312 ch] ++ []) (fun r w1 p1 _ => r = none ∧ w1 = [ob_TB a qs qc K W F, ar_I qs cI 2312 (va_up sc (pl_at s 0 w h).toNat (ch_res sc ch K s 0 w h).1), ar_I qc cI 2312 (va_up ch (pl_at s 0 w h).toNat (ch_res sc ch K s 0 w h).2)] ∧ p1 = []) := by
  refine cm_of (by decide) (Nat.le_of_ble_eq_true rfl) ?_
  intro X sz hl hr hnm hD hA hw
  subst hD
  have hp1 : pl_at (s - 1) (1 - 0) w h = (((s - 1) * 2 + (1 - 0)) * 17 + w) * 17 + h := rfl
  have hp2 : pl_at s 0 w h = ((s * 2 + 0) * 17 + w) * 17 + h := rfl
  have hp3 : pl_at 0 0 w h = ((0 * 2 + 0) * 17 + w) * 17 + h := rfl
  have loop : ∀ m n : Nat, (n : Int) + 1 + m = w → VV X (b_TB_choose, 15, "SheetTrees$Tables", rm_1) (cq X ([ob_TB a qs qc K W F, ar_I qs cI 2312 sc, ar_I qc cI 2312 ch] ++ []) sz (fun r w1 p1 _ => r = none ∧ w1 = [ob_TB a qs qc K W F, ar_I qs cI 2312 (va_up sc (pl_at s 0 w h).toNat (ch_res sc ch K s 0 w h).1), ar_I qc cI 2312 (va_up ch (pl_at s 0 w h).toNat (ch_res sc ch K s 0 w h).2)] ∧ p1 = []) rm_1) 0 0 [(cI, .int)] [ob_TB a qs qc K W F, ar_I qs cI 2312 sc, ar_I qc cI 2312 ch] [] [some (.ref a), some (.int (iI s)), some (.int (iI 0)), some (.int (iI w)), some (.int (iI h)), some (.int (iI (pl_at 0 0 w h))), some (.int (iI (cz sc K (pl_at (s - 1) (1 - 0) w h - w * 17) (pl_at s 0 w h - w * 17) 17 w (rd_scoreAt sc (pl_at 0 0 w h), rd_choiceAt ch (pl_at 0 0 w h)) n).1)), some (.int (iI (cz sc K (pl_at (s - 1) (1 - 0) w h - w * 17) (pl_at s 0 w h - w * 17) 17 w (rd_scoreAt sc (pl_at 0 0 w h), rd_choiceAt ch (pl_at 0 0 w h)) n).2)), some (.int (iI w)), some (.int (iI 17)), some (.int (iI (pl_at (s - 1) (1 - 0) w h - w * 17))), some (.int (iI (pl_at s 0 w h - w * 17))), some (.int (iI ((n : Int) + 1))), none, none] [] 100 := by
    intro m
    induction m with
    | zero =>
      intro n hn
      have hn2 : n = (w - 1).toNat := by omega
      refine vv_iload d_TB_choose_100 rfl ?_
      refine vv_iload d_TB_choose_102 rfl ?_
      refine vv_icmp_ge (tgt := 176) d_TB_choose_104 (by decide) ⟨by omega, by omega⟩ (fun c104 => ?_) (fun c104 => ?_)
      · skip
        refine vv_aload_n d_TB_choose_176 rfl ?_
        refine vv_iload d_TB_choose_177 rfl ?_
        refine vv_iload d_TB_choose_179 rfl ?_
        refine vv_iload d_TB_choose_181 rfl ?_
        refine vv_imul d_TB_choose_183 ?_
        refine vv_iadd d_TB_choose_184 ?_
        refine vv_iload d_TB_choose_185 rfl ?_
        refine vv_iload d_TB_choose_187 rfl ?_
        rw [show (pl_at s 0 w h - w * 17) + w * 17 = pl_at s 0 w h by omega]
        refine vv_nV hw (wc := [ob_TB a qs qc K W F, ar_I qs cI 2312 sc, ar_I qc cI 2312 ch]) (wr := []) [] (c_TB_put (cx_l X) (cx_D X) cI a qs qc K W F (pl_at s 0 w h) (cz sc K (pl_at (s - 1) (1 - 0) w h - w * 17) (pl_at s 0 w h - w * 17) 17 w (rd_scoreAt sc (pl_at 0 0 w h), rd_choiceAt ch (pl_at 0 0 w h)) n).1 (cz sc K (pl_at (s - 1) (1 - 0) w h - w * 17) (pl_at s 0 w h - w * 17) 17 w (rd_scoreAt sc (pl_at 0 0 w h), rd_choiceAt ch (pl_at 0 0 w h)) n).2 sc ch (by omega)) lk_TB_72 d_TB_choose_189 rfl (rc_at 0 rfl rfl rfl) [0, 1, 2] [] ⟨rfl, rfl⟩ ⟨rfl, rfl, by decide⟩ [0] rfl ⟨⟨by decide, by decide⟩, ⟨by decide, by decide⟩, Nat.le_of_ble_eq_true rfl⟩ ⟨rfl, rfl⟩ ?_
        rintro v w1 p1 t1 ⟨rfl, rfl, rfl⟩
        dsimp only [Option.toList, List.cons_append, List.nil_append, List.append_nil]
        exact vv_vret hA hw hr d_TB_choose_192 (by decide) (by decide) ⟨rfl, by unfold ch_res; rw [if_pos rfl, ← hn2], rfl⟩
      · exfalso; omega
    | succ m ih =>
      intro n hn
      have hcb := cz_bd (K := K) (fb := (pl_at (s - 1) (1 - 0) w h - w * 17)) (sb := (pl_at s 0 w h - w * 17)) (st := 17) (L := w) (p0 := (rd_scoreAt sc (pl_at 0 0 w h), rd_choiceAt ch (pl_at 0 0 w h))) hb (hb _) n
      have hb1 := hb ((pl_at (s - 1) (1 - 0) w h - w * 17) + ((n : Int) + 1) * 17)
      have hb2 := hb ((pl_at s 0 w h - w * 17) + max 0 (w - ((n : Int) + 1) - K) * 17)
      have hmx : 0 ≤ max 0 (w - ((n : Int) + 1) - K) ∧ max 0 (w - ((n : Int) + 1) - K) ≤ 16 := by omega
      refine vv_iload d_TB_choose_100 rfl ?_
      refine vv_iload d_TB_choose_102 rfl ?_
      refine vv_icmp_ge (tgt := 176) d_TB_choose_104 (by decide) ⟨by omega, by omega⟩ (fun c104 => ?_) (fun c104 => ?_)
      · exfalso; omega
      · skip
        refine vv_iconst d_TB_choose_107 ?_
        refine vv_iload d_TB_choose_108 rfl ?_
        refine vv_iload d_TB_choose_110 rfl ?_
        refine vv_isub d_TB_choose_112 ?_
        refine vv_aload_n d_TB_choose_113 rfl ?_
        refine vv_get d_TB_choose_114 0 rfl fl_TB_25 rfl ?_
        refine vv_isub d_TB_choose_117 ?_
        refine vv_mmax d_TB_choose_118 lm_TB_79 ⟨by omega, by omega⟩ ⟨by decide, Nat.le_of_ble_eq_true rfl, by decide, by decide⟩ ?_
        refine vv_istore d_TB_choose_121 rfl (by decide) ?_
        dsimp only [List.set]
        refine vv_aload_n d_TB_choose_123 rfl ?_
        refine vv_iload d_TB_choose_124 rfl ?_
        refine vv_iload d_TB_choose_126 rfl ?_
        refine vv_iload d_TB_choose_128 rfl ?_
        refine vv_imul d_TB_choose_130 ?_
        refine vv_iadd d_TB_choose_131 ?_
        refine vv_pV (wc := [ob_TB a qs qc K W F, ar_I qs cI 2312 sc]) (plc := []) [] (c_TB_scoreAt (cx_l X) (cx_D X) cI a qs qc K W F ((pl_at (s - 1) (1 - 0) w h - w * 17) + ((n : Int) + 1) * 17) sc (by omega)) lk_TB_43 d_TB_choose_132 rfl (rc_at 0 rfl rfl rfl) [0, 1] ⟨rfl, rfl, Or.inl rfl⟩ [0] rfl ⟨⟨by decide, by decide⟩, ⟨by decide, by decide⟩, Nat.le_of_ble_eq_true rfl⟩ ⟨rfl, rfl⟩ ?_
        intro v hv
        subst hv
        dsimp only [Option.toList, List.cons_append, List.nil_append, List.append_nil]
        refine vv_aload_n d_TB_choose_135 rfl ?_
        refine vv_iload d_TB_choose_136 rfl ?_
        refine vv_iload d_TB_choose_138 rfl ?_
        refine vv_iload d_TB_choose_140 rfl ?_
        refine vv_imul d_TB_choose_142 ?_
        refine vv_iadd d_TB_choose_143 ?_
        refine vv_pV (wc := [ob_TB a qs qc K W F, ar_I qs cI 2312 sc]) (plc := []) [.int (iI (rd_scoreAt sc ((pl_at (s - 1) (1 - 0) w h - w * 17) + ((n : Int) + 1) * 17)))] (c_TB_scoreAt (cx_l X) (cx_D X) cI a qs qc K W F ((pl_at s 0 w h - w * 17) + max 0 (w - ((n : Int) + 1) - K) * 17) sc (by omega)) lk_TB_43 d_TB_choose_144 rfl (rc_at 0 rfl rfl rfl) [0, 1] ⟨rfl, rfl, Or.inl rfl⟩ [0] rfl ⟨⟨by decide, by decide⟩, ⟨by decide, by decide⟩, Nat.le_of_ble_eq_true rfl⟩ ⟨rfl, rfl⟩ ?_
        intro v hv
        subst hv
        dsimp only [Option.toList, List.cons_append, List.nil_append, List.append_nil]
        refine vv_iadd d_TB_choose_147 ?_
        refine vv_iconst d_TB_choose_148 ?_
        refine vv_isub d_TB_choose_149 ?_
        refine vv_istore d_TB_choose_150 rfl (by decide) ?_
        dsimp only [List.set]
        refine vv_iload d_TB_choose_152 rfl ?_
        refine vv_iload d_TB_choose_154 rfl ?_
        refine vv_icmp_le (tgt := 170) d_TB_choose_156 (by decide) ⟨by omega, by omega⟩ (fun c156 => ?_) (fun c156 => ?_)
        · skip
          refine vv_iinc d_TB_choose_170 rfl rfl (by decide) ?_
          dsimp only [List.set]
          refine vv_goto (tgt := 100) d_TB_choose_173 (by decide) ?_
          have e1 : (cz sc K (pl_at (s - 1) (1 - 0) w h - w * 17) (pl_at s 0 w h - w * 17) 17 w (rd_scoreAt sc (pl_at 0 0 w h), rd_choiceAt ch (pl_at 0 0 w h)) (n + 1)) = (cz sc K (pl_at (s - 1) (1 - 0) w h - w * 17) (pl_at s 0 w h - w * 17) 17 w (rd_scoreAt sc (pl_at 0 0 w h), rd_choiceAt ch (pl_at 0 0 w h)) n) := by rw [cz.eq_def]; exact if_neg (by unfold cz_v; omega)
          have h9 := ih (n + 1) (by omega)
          rw [e1] at h9
          exact vv_le (by repeat (first | exact lo_le_nil _ | refine lo_le_cons _ ?_ | refine lo_le_none _ ?_)) h9
        · skip
          refine vv_iload d_TB_choose_159 rfl ?_
          refine vv_istore d_TB_choose_161 rfl (by decide) ?_
          dsimp only [List.set]
          refine vv_bipush d_TB_choose_163 (by decide +kernel) ?_
          refine vv_iload d_TB_choose_165 rfl ?_
          refine vv_iadd d_TB_choose_167 ?_
          refine vv_istore d_TB_choose_168 rfl (by decide) ?_
          dsimp only [List.set]
          refine vv_iinc d_TB_choose_170 rfl rfl (by decide) ?_
          dsimp only [List.set]
          refine vv_goto (tgt := 100) d_TB_choose_173 (by decide) ?_
          have e1 : (cz sc K (pl_at (s - 1) (1 - 0) w h - w * 17) (pl_at s 0 w h - w * 17) 17 w (rd_scoreAt sc (pl_at 0 0 w h), rd_choiceAt ch (pl_at 0 0 w h)) (n + 1)) = ((cz_v sc K (pl_at (s - 1) (1 - 0) w h - w * 17) (pl_at s 0 w h - w * 17) 17 w ((n : Int) + 1)), 8 + ((n : Int) + 1)) := by rw [cz.eq_def]; exact if_pos (by unfold cz_v; omega)
          have h9 := ih (n + 1) (by omega)
          rw [e1] at h9
          exact vv_le (by repeat (first | exact lo_le_nil _ | refine lo_le_cons _ ?_ | refine lo_le_none _ ?_)) h9
  have hu := hb (pl_at 0 0 w h)
  show VV X (b_TB_choose, 15, "SheetTrees$Tables", rm_1) _ 0 0 [(cI, .int)] [ob_TB a qs qc K W F, ar_I qs cI 2312 sc, ar_I qc cI 2312 ch] [] [some (.ref a), some (.int (iI s)), some (.int (iI 0)), some (.int (iI w)), some (.int (iI h)), none, none, none, none, none, none, none, none, none, none] [] 0
  refine vv_iconst d_TB_choose_0 ?_
  refine vv_iload_n d_TB_choose_1 rfl ?_
  refine vv_iload_n d_TB_choose_2 rfl ?_
  refine vv_iload d_TB_choose_3 rfl ?_
  refine vv_pS (wc := []) (plc := []) [] (c_TB_placeZ (cx_l X) (cx_D X) 0 0 w h (pl_at 0 0 w h) rfl) lk_TB_40 d_TB_choose_5 rfl [] ⟨rfl, rfl, Or.inl rfl⟩ [] rfl ⟨⟨by decide, by decide⟩, ⟨by decide, by decide⟩, Nat.le_of_ble_eq_true rfl⟩ ⟨rfl, rfl⟩ ?_
  intro v hv
  subst hv
  dsimp only [Option.toList, List.cons_append, List.nil_append, List.append_nil]
  refine vv_istore d_TB_choose_8 rfl (by decide) ?_
  dsimp only [List.set]
  refine vv_aload_n d_TB_choose_10 rfl ?_
  refine vv_iload d_TB_choose_11 rfl ?_
  refine vv_pV (wc := [ob_TB a qs qc K W F, ar_I qs cI 2312 sc]) (plc := []) [] (c_TB_scoreAt (cx_l X) (cx_D X) cI a qs qc K W F (pl_at 0 0 w h) sc (by omega)) lk_TB_43 d_TB_choose_13 rfl (rc_at 0 rfl rfl rfl) [0, 1] ⟨rfl, rfl, Or.inl rfl⟩ [0] rfl ⟨⟨by decide, by decide⟩, ⟨by decide, by decide⟩, Nat.le_of_ble_eq_true rfl⟩ ⟨rfl, rfl⟩ ?_
  intro v hv
  subst hv
  dsimp only [Option.toList, List.cons_append, List.nil_append, List.append_nil]
  refine vv_istore d_TB_choose_16 rfl (by decide) ?_
  dsimp only [List.set]
  refine vv_aload_n d_TB_choose_18 rfl ?_
  refine vv_iload d_TB_choose_19 rfl ?_
  refine vv_pV (wc := [ob_TB a qs qc K W F, ar_I qc cI 2312 ch]) (plc := []) [] (c_TB_choiceAt (cx_l X) (cx_D X) cI a qs qc K W F (pl_at 0 0 w h) ch (by omega)) lk_TB_47 d_TB_choose_21 rfl (rc_at 0 rfl rfl rfl) [0, 2] ⟨rfl, rfl, Or.inl rfl⟩ [0] rfl ⟨⟨by decide, by decide⟩, ⟨by decide, by decide⟩, Nat.le_of_ble_eq_true rfl⟩ ⟨rfl, rfl⟩ ?_
  intro v hv
  subst hv
  dsimp only [Option.toList, List.cons_append, List.nil_append, List.append_nil]
  refine vv_istore d_TB_choose_24 rfl (by decide) ?_
  dsimp only [List.set]
  refine vv_iload_n d_TB_choose_26 rfl ?_
  refine vv_if_ne (tgt := 34) d_TB_choose_27 (by decide) ⟨by omega, by omega⟩ (fun c27 => ?_) (fun c27 => ?_)
  · exfalso; omega
  · skip
    refine vv_iload_n d_TB_choose_30 rfl ?_
    refine vv_goto (tgt := 36) d_TB_choose_31 (by decide) ?_
    refine vv_istore d_TB_choose_36 rfl (by decide) ?_
    dsimp only [List.set]
    refine vv_iload_n d_TB_choose_38 rfl ?_
    refine vv_if_ne (tgt := 52) d_TB_choose_39 (by decide) ⟨by omega, by omega⟩ (fun c39 => ?_) (fun c39 => ?_)
    · exfalso; omega
    · skip
      refine vv_iconst d_TB_choose_42 ?_
      refine vv_iconst d_TB_choose_43 ?_
      refine vv_iconst d_TB_choose_44 ?_
      refine vv_iconst d_TB_choose_45 ?_
      refine vv_pS (wc := []) (plc := []) [] (c_TB_placeZ (cx_l X) (cx_D X) 0 0 1 0 17 (by decide)) lk_TB_40 d_TB_choose_46 rfl [] ⟨rfl, rfl, Or.inl rfl⟩ [] rfl ⟨⟨by decide, by decide⟩, ⟨by decide, by decide⟩, Nat.le_of_ble_eq_true rfl⟩ ⟨rfl, rfl⟩ ?_
      intro v hv
      subst hv
      dsimp only [Option.toList, List.cons_append, List.nil_append, List.append_nil]
      refine vv_goto (tgt := 59) d_TB_choose_49 (by decide) ?_
      refine vv_istore d_TB_choose_59 rfl (by decide) ?_
      dsimp only [List.set]
      refine vv_iload_n d_TB_choose_61 rfl ?_
      refine vv_iconst d_TB_choose_62 ?_
      refine vv_isub d_TB_choose_63 ?_
      refine vv_iconst d_TB_choose_64 ?_
      refine vv_iload_n d_TB_choose_65 rfl ?_
      refine vv_isub d_TB_choose_66 ?_
      refine vv_iload_n d_TB_choose_67 rfl ?_
      refine vv_iload d_TB_choose_68 rfl ?_
      refine vv_pS (wc := []) (plc := []) [] (c_TB_placeZ (cx_l X) (cx_D X) (s - 1) (1 - 0) w h (pl_at (s - 1) (1 - 0) w h) rfl) lk_TB_40 d_TB_choose_70 rfl [] ⟨rfl, rfl, Or.inl rfl⟩ [] rfl ⟨⟨by decide, by decide⟩, ⟨by decide, by decide⟩, Nat.le_of_ble_eq_true rfl⟩ ⟨rfl, rfl⟩ ?_
      intro v hv
      subst hv
      dsimp only [Option.toList, List.cons_append, List.nil_append, List.append_nil]
      refine vv_iload d_TB_choose_73 rfl ?_
      refine vv_iload d_TB_choose_75 rfl ?_
      refine vv_imul d_TB_choose_77 ?_
      refine vv_isub d_TB_choose_78 ?_
      refine vv_istore d_TB_choose_79 rfl (by decide) ?_
      dsimp only [List.set]
      refine vv_iload_n d_TB_choose_81 rfl ?_
      refine vv_iload_n d_TB_choose_82 rfl ?_
      refine vv_iload_n d_TB_choose_83 rfl ?_
      refine vv_iload d_TB_choose_84 rfl ?_
      refine vv_pS (wc := []) (plc := []) [] (c_TB_placeZ (cx_l X) (cx_D X) s 0 w h (pl_at s 0 w h) rfl) lk_TB_40 d_TB_choose_86 rfl [] ⟨rfl, rfl, Or.inl rfl⟩ [] rfl ⟨⟨by decide, by decide⟩, ⟨by decide, by decide⟩, Nat.le_of_ble_eq_true rfl⟩ ⟨rfl, rfl⟩ ?_
      intro v hv
      subst hv
      dsimp only [Option.toList, List.cons_append, List.nil_append, List.append_nil]
      refine vv_iload d_TB_choose_89 rfl ?_
      refine vv_iload d_TB_choose_91 rfl ?_
      refine vv_imul d_TB_choose_93 ?_
      refine vv_isub d_TB_choose_94 ?_
      refine vv_istore d_TB_choose_95 rfl (by decide) ?_
      dsimp only [List.set]
      refine vv_iconst d_TB_choose_97 ?_
      refine vv_istore d_TB_choose_98 rfl (by decide) ?_
      dsimp only [List.set]
      exact loop (w - 1).toNat 0 (by omega)
set_option maxHeartbeats 4000000 in
set_option maxRecDepth 100000 in
theorem c_TB_choose1 (l : Launch) (D : va_G) (cI : ClassId) (a qs qc : Nat) (K W F s w h : Int) (sc ch : Nat → Int) (hK : 0 ≤ K ∧ K ≤ 3) (hs : 1 ≤ s ∧ s ≤ 3) (hw1 : 1 ≤ w ∧ w ≤ 16) (hh1 : 1 ≤ h ∧ h ≤ 16) (hb : sc_bd sc) : CM l y_TB_choose b_TB_choose 15 none rm_1 [.ref a, .int (iI s), .int (iI 1), .int (iI w), .int (iI h)] D [(cI, .int)] ([ob_TB a qs qc K W F, ar_I qs cI 2312 sc, ar_I qc cI 2312 ch] ++ []) (fun r w1 p1 _ => r = none ∧ w1 = [ob_TB a qs qc K W F, ar_I qs cI 2312 (va_up sc (pl_at s 1 w h).toNat (ch_res sc ch K s 1 w h).1), ar_I qc cI 2312 (va_up ch (pl_at s 1 w h).toNat (ch_res sc ch K s 1 w h).2)] ∧ p1 = []) := by
  refine cm_of (by decide) (Nat.le_of_ble_eq_true rfl) ?_
  intro X sz hl hr hnm hD hA hw
  subst hD
  have hp1 : pl_at (s - 1) (1 - 1) w h = (((s - 1) * 2 + (1 - 1)) * 17 + w) * 17 + h := rfl
  have hp2 : pl_at s 1 w h = ((s * 2 + 1) * 17 + w) * 17 + h := rfl
  have hp3 : pl_at 0 1 w h = ((0 * 2 + 1) * 17 + w) * 17 + h := rfl
  have loop : ∀ m n : Nat, (n : Int) + 1 + m = h → VV X (b_TB_choose, 15, "SheetTrees$Tables", rm_1) (cq X ([ob_TB a qs qc K W F, ar_I qs cI 2312 sc, ar_I qc cI 2312 ch] ++ []) sz (fun r w1 p1 _ => r = none ∧ w1 = [ob_TB a qs qc K W F, ar_I qs cI 2312 (va_up sc (pl_at s 1 w h).toNat (ch_res sc ch K s 1 w h).1), ar_I qc cI 2312 (va_up ch (pl_at s 1 w h).toNat (ch_res sc ch K s 1 w h).2)] ∧ p1 = []) rm_1) 0 0 [(cI, .int)] [ob_TB a qs qc K W F, ar_I qs cI 2312 sc, ar_I qc cI 2312 ch] [] [some (.ref a), some (.int (iI s)), some (.int (iI 1)), some (.int (iI w)), some (.int (iI h)), some (.int (iI (pl_at 0 1 w h))), some (.int (iI (cz sc K (pl_at (s - 1) (1 - 1) w h - h * 1) (pl_at s 1 w h - h * 1) 1 h (rd_scoreAt sc (pl_at 0 1 w h), rd_choiceAt ch (pl_at 0 1 w h)) n).1)), some (.int (iI (cz sc K (pl_at (s - 1) (1 - 1) w h - h * 1) (pl_at s 1 w h - h * 1) 1 h (rd_scoreAt sc (pl_at 0 1 w h), rd_choiceAt ch (pl_at 0 1 w h)) n).2)), some (.int (iI h)), some (.int (iI 1)), some (.int (iI (pl_at (s - 1) (1 - 1) w h - h * 1))), some (.int (iI (pl_at s 1 w h - h * 1))), some (.int (iI ((n : Int) + 1))), none, none] [] 100 := by
    intro m
    induction m with
    | zero =>
      intro n hn
      have hn2 : n = (h - 1).toNat := by omega
      refine vv_iload d_TB_choose_100 rfl ?_
      refine vv_iload d_TB_choose_102 rfl ?_
      refine vv_icmp_ge (tgt := 176) d_TB_choose_104 (by decide) ⟨by omega, by omega⟩ (fun c104 => ?_) (fun c104 => ?_)
      · skip
        refine vv_aload_n d_TB_choose_176 rfl ?_
        refine vv_iload d_TB_choose_177 rfl ?_
        refine vv_iload d_TB_choose_179 rfl ?_
        refine vv_iload d_TB_choose_181 rfl ?_
        refine vv_imul d_TB_choose_183 ?_
        refine vv_iadd d_TB_choose_184 ?_
        refine vv_iload d_TB_choose_185 rfl ?_
        refine vv_iload d_TB_choose_187 rfl ?_
        rw [show (pl_at s 1 w h - h * 1) + h * 1 = pl_at s 1 w h by omega]
        refine vv_nV hw (wc := [ob_TB a qs qc K W F, ar_I qs cI 2312 sc, ar_I qc cI 2312 ch]) (wr := []) [] (c_TB_put (cx_l X) (cx_D X) cI a qs qc K W F (pl_at s 1 w h) (cz sc K (pl_at (s - 1) (1 - 1) w h - h * 1) (pl_at s 1 w h - h * 1) 1 h (rd_scoreAt sc (pl_at 0 1 w h), rd_choiceAt ch (pl_at 0 1 w h)) n).1 (cz sc K (pl_at (s - 1) (1 - 1) w h - h * 1) (pl_at s 1 w h - h * 1) 1 h (rd_scoreAt sc (pl_at 0 1 w h), rd_choiceAt ch (pl_at 0 1 w h)) n).2 sc ch (by omega)) lk_TB_72 d_TB_choose_189 rfl (rc_at 0 rfl rfl rfl) [0, 1, 2] [] ⟨rfl, rfl⟩ ⟨rfl, rfl, by decide⟩ [0] rfl ⟨⟨by decide, by decide⟩, ⟨by decide, by decide⟩, Nat.le_of_ble_eq_true rfl⟩ ⟨rfl, rfl⟩ ?_
        rintro v w1 p1 t1 ⟨rfl, rfl, rfl⟩
        dsimp only [Option.toList, List.cons_append, List.nil_append, List.append_nil]
        exact vv_vret hA hw hr d_TB_choose_192 (by decide) (by decide) ⟨rfl, by unfold ch_res; rw [if_neg (by decide), ← hn2], rfl⟩
      · exfalso; omega
    | succ m ih =>
      intro n hn
      have hcb := cz_bd (K := K) (fb := (pl_at (s - 1) (1 - 1) w h - h * 1)) (sb := (pl_at s 1 w h - h * 1)) (st := 1) (L := h) (p0 := (rd_scoreAt sc (pl_at 0 1 w h), rd_choiceAt ch (pl_at 0 1 w h))) hb (hb _) n
      have hb1 := hb ((pl_at (s - 1) (1 - 1) w h - h * 1) + ((n : Int) + 1) * 1)
      have hb2 := hb ((pl_at s 1 w h - h * 1) + max 0 (h - ((n : Int) + 1) - K) * 1)
      have hmx : 0 ≤ max 0 (h - ((n : Int) + 1) - K) ∧ max 0 (h - ((n : Int) + 1) - K) ≤ 16 := by omega
      refine vv_iload d_TB_choose_100 rfl ?_
      refine vv_iload d_TB_choose_102 rfl ?_
      refine vv_icmp_ge (tgt := 176) d_TB_choose_104 (by decide) ⟨by omega, by omega⟩ (fun c104 => ?_) (fun c104 => ?_)
      · exfalso; omega
      · skip
        refine vv_iconst d_TB_choose_107 ?_
        refine vv_iload d_TB_choose_108 rfl ?_
        refine vv_iload d_TB_choose_110 rfl ?_
        refine vv_isub d_TB_choose_112 ?_
        refine vv_aload_n d_TB_choose_113 rfl ?_
        refine vv_get d_TB_choose_114 0 rfl fl_TB_25 rfl ?_
        refine vv_isub d_TB_choose_117 ?_
        refine vv_mmax d_TB_choose_118 lm_TB_79 ⟨by omega, by omega⟩ ⟨by decide, Nat.le_of_ble_eq_true rfl, by decide, by decide⟩ ?_
        refine vv_istore d_TB_choose_121 rfl (by decide) ?_
        dsimp only [List.set]
        refine vv_aload_n d_TB_choose_123 rfl ?_
        refine vv_iload d_TB_choose_124 rfl ?_
        refine vv_iload d_TB_choose_126 rfl ?_
        refine vv_iload d_TB_choose_128 rfl ?_
        refine vv_imul d_TB_choose_130 ?_
        refine vv_iadd d_TB_choose_131 ?_
        refine vv_pV (wc := [ob_TB a qs qc K W F, ar_I qs cI 2312 sc]) (plc := []) [] (c_TB_scoreAt (cx_l X) (cx_D X) cI a qs qc K W F ((pl_at (s - 1) (1 - 1) w h - h * 1) + ((n : Int) + 1) * 1) sc (by omega)) lk_TB_43 d_TB_choose_132 rfl (rc_at 0 rfl rfl rfl) [0, 1] ⟨rfl, rfl, Or.inl rfl⟩ [0] rfl ⟨⟨by decide, by decide⟩, ⟨by decide, by decide⟩, Nat.le_of_ble_eq_true rfl⟩ ⟨rfl, rfl⟩ ?_
        intro v hv
        subst hv
        dsimp only [Option.toList, List.cons_append, List.nil_append, List.append_nil]
        refine vv_aload_n d_TB_choose_135 rfl ?_
        refine vv_iload d_TB_choose_136 rfl ?_
        refine vv_iload d_TB_choose_138 rfl ?_
        refine vv_iload d_TB_choose_140 rfl ?_
        refine vv_imul d_TB_choose_142 ?_
        refine vv_iadd d_TB_choose_143 ?_
        refine vv_pV (wc := [ob_TB a qs qc K W F, ar_I qs cI 2312 sc]) (plc := []) [.int (iI (rd_scoreAt sc ((pl_at (s - 1) (1 - 1) w h - h * 1) + ((n : Int) + 1) * 1)))] (c_TB_scoreAt (cx_l X) (cx_D X) cI a qs qc K W F ((pl_at s 1 w h - h * 1) + max 0 (h - ((n : Int) + 1) - K) * 1) sc (by omega)) lk_TB_43 d_TB_choose_144 rfl (rc_at 0 rfl rfl rfl) [0, 1] ⟨rfl, rfl, Or.inl rfl⟩ [0] rfl ⟨⟨by decide, by decide⟩, ⟨by decide, by decide⟩, Nat.le_of_ble_eq_true rfl⟩ ⟨rfl, rfl⟩ ?_
        intro v hv
        subst hv
        dsimp only [Option.toList, List.cons_append, List.nil_append, List.append_nil]
        refine vv_iadd d_TB_choose_147 ?_
        refine vv_iconst d_TB_choose_148 ?_
        refine vv_isub d_TB_choose_149 ?_
        refine vv_istore d_TB_choose_150 rfl (by decide) ?_
        dsimp only [List.set]
        refine vv_iload d_TB_choose_152 rfl ?_
        refine vv_iload d_TB_choose_154 rfl ?_
        refine vv_icmp_le (tgt := 170) d_TB_choose_156 (by decide) ⟨by omega, by omega⟩ (fun c156 => ?_) (fun c156 => ?_)
        · skip
          refine vv_iinc d_TB_choose_170 rfl rfl (by decide) ?_
          dsimp only [List.set]
          refine vv_goto (tgt := 100) d_TB_choose_173 (by decide) ?_
          have e1 : (cz sc K (pl_at (s - 1) (1 - 1) w h - h * 1) (pl_at s 1 w h - h * 1) 1 h (rd_scoreAt sc (pl_at 0 1 w h), rd_choiceAt ch (pl_at 0 1 w h)) (n + 1)) = (cz sc K (pl_at (s - 1) (1 - 1) w h - h * 1) (pl_at s 1 w h - h * 1) 1 h (rd_scoreAt sc (pl_at 0 1 w h), rd_choiceAt ch (pl_at 0 1 w h)) n) := by rw [cz.eq_def]; exact if_neg (by unfold cz_v; omega)
          have h9 := ih (n + 1) (by omega)
          rw [e1] at h9
          exact vv_le (by repeat (first | exact lo_le_nil _ | refine lo_le_cons _ ?_ | refine lo_le_none _ ?_)) h9
        · skip
          refine vv_iload d_TB_choose_159 rfl ?_
          refine vv_istore d_TB_choose_161 rfl (by decide) ?_
          dsimp only [List.set]
          refine vv_bipush d_TB_choose_163 (by decide +kernel) ?_
          refine vv_iload d_TB_choose_165 rfl ?_
          refine vv_iadd d_TB_choose_167 ?_
          refine vv_istore d_TB_choose_168 rfl (by decide) ?_
          dsimp only [List.set]
          refine vv_iinc d_TB_choose_170 rfl rfl (by decide) ?_
          dsimp only [List.set]
          refine vv_goto (tgt := 100) d_TB_choose_173 (by decide) ?_
          have e1 : (cz sc K (pl_at (s - 1) (1 - 1) w h - h * 1) (pl_at s 1 w h - h * 1) 1 h (rd_scoreAt sc (pl_at 0 1 w h), rd_choiceAt ch (pl_at 0 1 w h)) (n + 1)) = ((cz_v sc K (pl_at (s - 1) (1 - 1) w h - h * 1) (pl_at s 1 w h - h * 1) 1 h ((n : Int) + 1)), 8 + ((n : Int) + 1)) := by rw [cz.eq_def]; exact if_pos (by unfold cz_v; omega)
          have h9 := ih (n + 1) (by omega)
          rw [e1] at h9
          exact vv_le (by repeat (first | exact lo_le_nil _ | refine lo_le_cons _ ?_ | refine lo_le_none _ ?_)) h9
  have hu := hb (pl_at 0 1 w h)
  show VV X (b_TB_choose, 15, "SheetTrees$Tables", rm_1) _ 0 0 [(cI, .int)] [ob_TB a qs qc K W F, ar_I qs cI 2312 sc, ar_I qc cI 2312 ch] [] [some (.ref a), some (.int (iI s)), some (.int (iI 1)), some (.int (iI w)), some (.int (iI h)), none, none, none, none, none, none, none, none, none, none] [] 0
  refine vv_iconst d_TB_choose_0 ?_
  refine vv_iload_n d_TB_choose_1 rfl ?_
  refine vv_iload_n d_TB_choose_2 rfl ?_
  refine vv_iload d_TB_choose_3 rfl ?_
  refine vv_pS (wc := []) (plc := []) [] (c_TB_placeZ (cx_l X) (cx_D X) 0 1 w h (pl_at 0 1 w h) rfl) lk_TB_40 d_TB_choose_5 rfl [] ⟨rfl, rfl, Or.inl rfl⟩ [] rfl ⟨⟨by decide, by decide⟩, ⟨by decide, by decide⟩, Nat.le_of_ble_eq_true rfl⟩ ⟨rfl, rfl⟩ ?_
  intro v hv
  subst hv
  dsimp only [Option.toList, List.cons_append, List.nil_append, List.append_nil]
  refine vv_istore d_TB_choose_8 rfl (by decide) ?_
  dsimp only [List.set]
  refine vv_aload_n d_TB_choose_10 rfl ?_
  refine vv_iload d_TB_choose_11 rfl ?_
  refine vv_pV (wc := [ob_TB a qs qc K W F, ar_I qs cI 2312 sc]) (plc := []) [] (c_TB_scoreAt (cx_l X) (cx_D X) cI a qs qc K W F (pl_at 0 1 w h) sc (by omega)) lk_TB_43 d_TB_choose_13 rfl (rc_at 0 rfl rfl rfl) [0, 1] ⟨rfl, rfl, Or.inl rfl⟩ [0] rfl ⟨⟨by decide, by decide⟩, ⟨by decide, by decide⟩, Nat.le_of_ble_eq_true rfl⟩ ⟨rfl, rfl⟩ ?_
  intro v hv
  subst hv
  dsimp only [Option.toList, List.cons_append, List.nil_append, List.append_nil]
  refine vv_istore d_TB_choose_16 rfl (by decide) ?_
  dsimp only [List.set]
  refine vv_aload_n d_TB_choose_18 rfl ?_
  refine vv_iload d_TB_choose_19 rfl ?_
  refine vv_pV (wc := [ob_TB a qs qc K W F, ar_I qc cI 2312 ch]) (plc := []) [] (c_TB_choiceAt (cx_l X) (cx_D X) cI a qs qc K W F (pl_at 0 1 w h) ch (by omega)) lk_TB_47 d_TB_choose_21 rfl (rc_at 0 rfl rfl rfl) [0, 2] ⟨rfl, rfl, Or.inl rfl⟩ [0] rfl ⟨⟨by decide, by decide⟩, ⟨by decide, by decide⟩, Nat.le_of_ble_eq_true rfl⟩ ⟨rfl, rfl⟩ ?_
  intro v hv
  subst hv
  dsimp only [Option.toList, List.cons_append, List.nil_append, List.append_nil]
  refine vv_istore d_TB_choose_24 rfl (by decide) ?_
  dsimp only [List.set]
  refine vv_iload_n d_TB_choose_26 rfl ?_
  refine vv_if_ne (tgt := 34) d_TB_choose_27 (by decide) ⟨by omega, by omega⟩ (fun c27 => ?_) (fun c27 => ?_)
  · skip
    refine vv_iload d_TB_choose_34 rfl ?_
    refine vv_istore d_TB_choose_36 rfl (by decide) ?_
    dsimp only [List.set]
    refine vv_iload_n d_TB_choose_38 rfl ?_
    refine vv_if_ne (tgt := 52) d_TB_choose_39 (by decide) ⟨by omega, by omega⟩ (fun c39 => ?_) (fun c39 => ?_)
    · skip
      refine vv_iconst d_TB_choose_52 ?_
      refine vv_iconst d_TB_choose_53 ?_
      refine vv_iconst d_TB_choose_54 ?_
      refine vv_iconst d_TB_choose_55 ?_
      refine vv_pS (wc := []) (plc := []) [] (c_TB_placeZ (cx_l X) (cx_D X) 0 0 0 1 1 (by decide)) lk_TB_40 d_TB_choose_56 rfl [] ⟨rfl, rfl, Or.inl rfl⟩ [] rfl ⟨⟨by decide, by decide⟩, ⟨by decide, by decide⟩, Nat.le_of_ble_eq_true rfl⟩ ⟨rfl, rfl⟩ ?_
      intro v hv
      subst hv
      dsimp only [Option.toList, List.cons_append, List.nil_append, List.append_nil]
      refine vv_istore d_TB_choose_59 rfl (by decide) ?_
      dsimp only [List.set]
      refine vv_iload_n d_TB_choose_61 rfl ?_
      refine vv_iconst d_TB_choose_62 ?_
      refine vv_isub d_TB_choose_63 ?_
      refine vv_iconst d_TB_choose_64 ?_
      refine vv_iload_n d_TB_choose_65 rfl ?_
      refine vv_isub d_TB_choose_66 ?_
      refine vv_iload_n d_TB_choose_67 rfl ?_
      refine vv_iload d_TB_choose_68 rfl ?_
      refine vv_pS (wc := []) (plc := []) [] (c_TB_placeZ (cx_l X) (cx_D X) (s - 1) (1 - 1) w h (pl_at (s - 1) (1 - 1) w h) rfl) lk_TB_40 d_TB_choose_70 rfl [] ⟨rfl, rfl, Or.inl rfl⟩ [] rfl ⟨⟨by decide, by decide⟩, ⟨by decide, by decide⟩, Nat.le_of_ble_eq_true rfl⟩ ⟨rfl, rfl⟩ ?_
      intro v hv
      subst hv
      dsimp only [Option.toList, List.cons_append, List.nil_append, List.append_nil]
      refine vv_iload d_TB_choose_73 rfl ?_
      refine vv_iload d_TB_choose_75 rfl ?_
      refine vv_imul d_TB_choose_77 ?_
      refine vv_isub d_TB_choose_78 ?_
      refine vv_istore d_TB_choose_79 rfl (by decide) ?_
      dsimp only [List.set]
      refine vv_iload_n d_TB_choose_81 rfl ?_
      refine vv_iload_n d_TB_choose_82 rfl ?_
      refine vv_iload_n d_TB_choose_83 rfl ?_
      refine vv_iload d_TB_choose_84 rfl ?_
      refine vv_pS (wc := []) (plc := []) [] (c_TB_placeZ (cx_l X) (cx_D X) s 1 w h (pl_at s 1 w h) rfl) lk_TB_40 d_TB_choose_86 rfl [] ⟨rfl, rfl, Or.inl rfl⟩ [] rfl ⟨⟨by decide, by decide⟩, ⟨by decide, by decide⟩, Nat.le_of_ble_eq_true rfl⟩ ⟨rfl, rfl⟩ ?_
      intro v hv
      subst hv
      dsimp only [Option.toList, List.cons_append, List.nil_append, List.append_nil]
      refine vv_iload d_TB_choose_89 rfl ?_
      refine vv_iload d_TB_choose_91 rfl ?_
      refine vv_imul d_TB_choose_93 ?_
      refine vv_isub d_TB_choose_94 ?_
      refine vv_istore d_TB_choose_95 rfl (by decide) ?_
      dsimp only [List.set]
      refine vv_iconst d_TB_choose_97 ?_
      refine vv_istore d_TB_choose_98 rfl (by decide) ?_
      dsimp only [List.set]
      exact loop (h - 1).toNat 0 (by omega)
    · exfalso; omega
  · exfalso; omega
end
section
/-! Tables: scores stay under the area; a whole stage -/
abbrev tp_T : Type := (Nat → Int) × (Nat → Int)
def TI (sc : Nat → Int) : Prop := ∀ s d w h : Int, 0 ≤ s → s ≤ 3 → 0 ≤ d → d ≤ 1 → 0 ≤ w → w ≤ 16 → 0 ≤ h → h ≤ 16 → 0 ≤ sc (pl_at s d w h).toNat ∧ sc (pl_at s d w h).toNat ≤ w * h * 1024
theorem pl_inv {z : Int} (h0 : 0 ≤ z) (h1 : z < 2312) : ∃ s d w h : Int, (0 ≤ s ∧ s ≤ 3) ∧ (0 ≤ d ∧ d ≤ 1) ∧ (0 ≤ w ∧ w ≤ 16) ∧ (0 ≤ h ∧ h ≤ 16) ∧ z = pl_at s d w h := by
  refine ⟨z / 289 / 2, z / 289 % 2, z % 289 / 17, z % 17, ?_, ?_, ?_, ?_, ?_⟩ <;> (try unfold pl_at) <;> omega
theorem area_le {w h : Int} (w0 : 0 ≤ w) (w1 : w ≤ 16) (h0 : 0 ≤ h) (h1 : h ≤ 16) : 0 ≤ w * h ∧ w * h ≤ 256 := by
  have a := Int.mul_nonneg w0 h0
  have b := Int.mul_le_mul w1 h1 h0 (by omega)
  omega
theorem TI_bd {sc : Nat → Int} (hT : TI sc) : sc_bd sc := by
  intro z
  unfold rd_scoreAt
  split
  · rename_i hz
    obtain ⟨s, d, w, h, hs, hd, hw, hh, rfl⟩ := pl_inv hz.1 hz.2
    have h1 := hT s d w h hs.1 hs.2 hd.1 hd.2 hw.1 hw.2 hh.1 hh.2
    have h2 := area_le hw.1 hw.2 hh.1 hh.2
    omega
  · omega
theorem rd_pl {sc : Nat → Int} {s d w h : Int} (hs : 0 ≤ s ∧ s ≤ 3) (hd : 0 ≤ d ∧ d ≤ 1) (hw : 0 ≤ w ∧ w ≤ 16) (hh : 0 ≤ h ∧ h ≤ 16) : rd_scoreAt sc (pl_at s d w h) = sc (pl_at s d w h).toNat := by
  unfold rd_scoreAt
  rw [if_pos]
  unfold pl_at
  omega
theorem rd_plc {ch : Nat → Int} {s d w h : Int} (hs : 0 ≤ s ∧ s ≤ 3) (hd : 0 ≤ d ∧ d ≤ 1) (hw : 0 ≤ w ∧ w ≤ 16) (hh : 0 ≤ h ∧ h ≤ 16) : rd_choiceAt ch (pl_at s d w h) = ch (pl_at s d w h).toNat := by
  unfold rd_choiceAt
  rw [if_pos]
  unfold pl_at
  omega
theorem pl_ne {s d w h s' d' w' h' : Int} (hs : 0 ≤ s ∧ s ≤ 3) (hd : 0 ≤ d ∧ d ≤ 1) (hw : 0 ≤ w ∧ w ≤ 16) (hh : 0 ≤ h ∧ h ≤ 16) (hs' : 0 ≤ s' ∧ s' ≤ 3) (hd' : 0 ≤ d' ∧ d' ≤ 1) (hw' : 0 ≤ w' ∧ w' ≤ 16) (hh' : 0 ≤ h' ∧ h' ≤ 16) (e : (pl_at s d w h).toNat = (pl_at s' d' w' h').toNat) : s = s' ∧ d = d' ∧ w = w' ∧ h = h' := by
  unfold pl_at at e
  omega
theorem TI_up {sc : Nat → Int} {s d w h v : Int} (hT : TI sc) (hs : 0 ≤ s ∧ s ≤ 3) (hd : 0 ≤ d ∧ d ≤ 1) (hw : 0 ≤ w ∧ w ≤ 16) (hh : 0 ≤ h ∧ h ≤ 16) (hv : 0 ≤ v ∧ v ≤ w * h * 1024) : TI (va_up sc (pl_at s d w h).toNat v) := by
  intro s' d' w' h' a1 a2 a3 a4 a5 a6 a7 a8
  by_cases e : (pl_at s' d' w' h').toNat = (pl_at s d w h).toNat
  · obtain ⟨e1, e2, e3, e4⟩ := pl_ne ⟨a1, a2⟩ ⟨a3, a4⟩ ⟨a5, a6⟩ ⟨a7, a8⟩ hs hd hw hh e
    subst e1; subst e2; subst e3; subst e4
    rw [va_up_self]
    exact hv
  · rw [va_up_ne _ _ e]
    exact hT s' d' w' h' a1 a2 a3 a4 a5 a6 a7 a8
theorem cz_le {sc : Nat → Int} {K fb sb st L B : Int} {p0 : Int × Int} (h0 : 0 ≤ p0.1 ∧ p0.1 ≤ B) : ∀ n : Nat, (∀ c : Nat, c < n → cz_v sc K fb sb st L ((c : Int) + 1) ≤ B) → 0 ≤ (cz sc K fb sb st L p0 n).1 ∧ (cz sc K fb sb st L p0 n).1 ≤ B
  | 0, _ => by unfold cz; exact h0
  | n + 1, hc => by
    have ih := cz_le (K := K) (fb := fb) (sb := sb) (st := st) (L := L) h0 n (fun c h => hc c (by omega))
    have h1 := hc n (by omega)
    unfold cz
    split
    · rename_i h3
      exact ⟨by show 0 ≤ cz_v _ _ _ _ _ _ _; omega, h1⟩
    · exact ih
theorem split_le {a b x : Int} (hb : 0 ≤ b) (h1 : 0 ≤ a) (hx : a ≤ x) : a * b * 1024 + (x - a) * b * 1024 = x * b * 1024 := by
  have e : a * b + (x - a) * b = x * b := by rw [← Int.add_mul]; congr 1; omega
  omega
theorem mono_le {a b x : Int} (hb : 0 ≤ b) (hx : a ≤ x) : a * b ≤ x * b := Int.mul_le_mul_of_nonneg_right hx hb
theorem ch_le0 {sc ch : Nat → Int} {K s w h : Int} (hT : TI sc) (hK : 0 ≤ K) (hs : 1 ≤ s ∧ s ≤ 3) (hw : 1 ≤ w ∧ w ≤ 16) (hh : 1 ≤ h ∧ h ≤ 16) : 0 ≤ (ch_res sc ch K s 0 w h).1 ∧ (ch_res sc ch K s 0 w h).1 ≤ w * h * 1024 := by
  unfold ch_res
  rw [if_pos rfl]
  refine cz_le ?_ _ (fun c hc => ?_)
  · show 0 ≤ rd_scoreAt _ _ ∧ rd_scoreAt _ _ ≤ _
    rw [rd_pl (by omega) (by omega) (by omega) (by omega)]
    exact hT 0 0 w h (by omega) (by omega) (by omega) (by omega) (by omega) (by omega) (by omega) (by omega)
  · unfold cz_v
    generalize hr : max 0 (w - ((c : Int) + 1) - K) = r
    have hr2 : 0 ≤ r ∧ r ≤ w - ((c : Int) + 1) := by omega
    rw [show pl_at (s - 1) (1 - 0) w h - w * 17 + ((c : Int) + 1) * 17 = pl_at (s - 1) 1 ((c : Int) + 1) h by unfold pl_at; omega, show pl_at s 0 w h - w * 17 + r * 17 = pl_at s 0 r h by unfold pl_at; omega, rd_pl (by omega) (by omega) (by omega) (by omega), rd_pl (by omega) (by omega) (by omega) (by omega)]
    have h1 := hT (s - 1) 1 ((c : Int) + 1) h (by omega) (by omega) (by omega) (by omega) (by omega) (by omega) (by omega) (by omega)
    have h2 := hT s 0 r h (by omega) (by omega) (by omega) (by omega) (by omega) (by omega) (by omega) (by omega)
    have h3 := split_le (a := (c : Int) + 1) (b := h) (x := w) (by omega) (by omega) (by omega)
    have h4 := mono_le (a := r) (b := h) (x := w - ((c : Int) + 1)) (by omega) hr2.2
    omega
theorem ch_le1 {sc ch : Nat → Int} {K s w h : Int} (hT : TI sc) (hK : 0 ≤ K) (hs : 1 ≤ s ∧ s ≤ 3) (hw : 1 ≤ w ∧ w ≤ 16) (hh : 1 ≤ h ∧ h ≤ 16) : 0 ≤ (ch_res sc ch K s 1 w h).1 ∧ (ch_res sc ch K s 1 w h).1 ≤ w * h * 1024 := by
  unfold ch_res
  rw [if_neg (by decide)]
  refine cz_le ?_ _ (fun c hc => ?_)
  · show 0 ≤ rd_scoreAt _ _ ∧ rd_scoreAt _ _ ≤ _
    rw [rd_pl (by omega) (by omega) (by omega) (by omega)]
    exact hT 0 1 w h (by omega) (by omega) (by omega) (by omega) (by omega) (by omega) (by omega) (by omega)
  · unfold cz_v
    generalize hr : max 0 (h - ((c : Int) + 1) - K) = r
    have hr2 : 0 ≤ r ∧ r ≤ h - ((c : Int) + 1) := by omega
    rw [show pl_at (s - 1) (1 - 1) w h - h * 1 + ((c : Int) + 1) * 1 = pl_at (s - 1) 0 w ((c : Int) + 1) by unfold pl_at; omega, show pl_at s 1 w h - h * 1 + r * 1 = pl_at s 1 w r by unfold pl_at; omega, rd_pl (by omega) (by omega) (by omega) (by omega), rd_pl (by omega) (by omega) (by omega) (by omega)]
    have h1 := hT (s - 1) 0 w ((c : Int) + 1) (by omega) (by omega) (by omega) (by omega) (by omega) (by omega) (by omega) (by omega)
    have h2 := hT s 1 w r (by omega) (by omega) (by omega) (by omega) (by omega) (by omega) (by omega) (by omega)
    have h3 := split_le (a := (c : Int) + 1) (b := w) (x := h) (by omega) (by omega) (by omega)
    have h4 := mono_le (a := r) (b := w) (x := h - ((c : Int) + 1)) (by omega) hr2.2
    rw [Int.mul_comm w ((c : Int) + 1)] at h1
    rw [Int.mul_comm w r] at h2
    rw [Int.mul_comm w h]
    omega
def ch_up (K s d w h : Int) (T : tp_T) : tp_T := (va_up T.1 (pl_at s d w h).toNat (ch_res T.1 T.2 K s d w h).1, va_up T.2 (pl_at s d w h).toNat (ch_res T.1 T.2 K s d w h).2)
def ch_2 (K s w h : Int) (T : tp_T) : tp_T := ch_up K s 1 w h (ch_up K s 0 w h T)
/-- the heights 1 .. n of a width, the widths 1 .. n -/
def fs_h (K s w : Int) (T : tp_T) : Nat → tp_T
  | 0 => T
  | n + 1 => ch_2 K s w ((n : Int) + 1) (fs_h K s w T n)
def fs_w (K s : Int) (T : tp_T) : Nat → tp_T
  | 0 => T
  | n + 1 => fs_h K s ((n : Int) + 1) (fs_w K s T n) 16
theorem TI_ch2 {K s w h : Int} {T : tp_T} (hT : TI T.1) (hK : 0 ≤ K) (hs : 1 ≤ s ∧ s ≤ 3) (hw : 1 ≤ w ∧ w ≤ 16) (hh : 1 ≤ h ∧ h ≤ 16) : TI (ch_up K s 0 w h T).1 ∧ TI (ch_2 K s w h T).1 := by
  have h1 : TI (ch_up K s 0 w h T).1 := TI_up hT (by omega) (by omega) (by omega) (by omega) (ch_le0 hT hK hs hw hh)
  exact ⟨h1, TI_up h1 (by omega) (by omega) (by omega) (by omega) (ch_le1 h1 hK hs hw hh)⟩
theorem TI_fsh {K s w : Int} {T : tp_T} (hT : TI T.1) (hK : 0 ≤ K) (hs : 1 ≤ s ∧ s ≤ 3) (hw : 1 ≤ w ∧ w ≤ 16) : ∀ n : Nat, n ≤ 16 → TI (fs_h K s w T n).1
  | 0, _ => hT
  | n + 1, hn => (TI_ch2 (TI_fsh hT hK hs hw n (by omega)) hK hs hw (by omega)).2
theorem TI_fsw {K s : Int} {T : tp_T} (hT : TI T.1) (hK : 0 ≤ K) (hs : 1 ≤ s ∧ s ≤ 3) : ∀ n : Nat, n ≤ 16 → TI (fs_w K s T n).1
  | 0, _ => hT
  | n + 1, hn => TI_fsh (TI_fsw hT hK hs n (by omega)) hK hs (by omega) 16 (by omega)
set_option maxHeartbeats 4000000 in
set_option maxRecDepth 100000 in
theorem c_TB_fillStage (l : Launch) (D : va_G) (cI : ClassId) (a qs qc : Nat) (K W F s : Int) (T : tp_T) (hK : 0 ≤ K ∧ K ≤ 3) (hs : 1 ≤ s ∧ s ≤ 3) (hT : TI T.1) : CM l y_TB_fillStage b_TB_fillStage 4 none rm_2 [.ref a, .int (iI s)] D [(cI, .int)] ([ob_TB a qs qc K W F, ar_I qs cI 2312 T.1, ar_I qc cI 2312 T.2] ++ []) (fun r w1 p1 _ => r = none ∧ w1 = [ob_TB a qs qc K W F, ar_I qs cI 2312 (fs_w K s T 16).1, ar_I qc cI 2312 (fs_w K s T 16).2] ∧ p1 = []) := by
  refine cm_of (by decide) (Nat.le_of_ble_eq_true rfl) ?_
  intro X sz hl hr hnm hD hA hw
  subst hD
  have inner : ∀ (T1 : tp_T) (w : Int), TI T1.1 → 1 ≤ w ∧ w ≤ 16 → (VV X (b_TB_fillStage, 4, "SheetTrees$Tables", rm_2) (cq X ([ob_TB a qs qc K W F, ar_I qs cI 2312 T.1, ar_I qc cI 2312 T.2] ++ []) sz (fun r w1 p1 _ => r = none ∧ w1 = [ob_TB a qs qc K W F, ar_I qs cI 2312 (fs_w K s T 16).1, ar_I qc cI 2312 (fs_w K s T 16).2] ∧ p1 = []) rm_2) 0 0 [(cI, .int)] [ob_TB a qs qc K W F, ar_I qs cI 2312 (fs_h K s w T1 16).1, ar_I qc cI 2312 (fs_h K s w T1 16).2] [] [some (.ref a), some (.int (iI s)), some (.int (iI w)), none] [] 38) → ∀ m n : Nat, n + m = 16 → VV X (b_TB_fillStage, 4, "SheetTrees$Tables", rm_2) (cq X ([ob_TB a qs qc K W F, ar_I qs cI 2312 T.1, ar_I qc cI 2312 T.2] ++ []) sz (fun r w1 p1 _ => r = none ∧ w1 = [ob_TB a qs qc K W F, ar_I qs cI 2312 (fs_w K s T 16).1, ar_I qc cI 2312 (fs_w K s T 16).2] ∧ p1 = []) rm_2) 0 0 [(cI, .int)] [ob_TB a qs qc K W F, ar_I qs cI 2312 (fs_h K s w T1 n).1, ar_I qc cI 2312 (fs_h K s w T1 n).2] [] [some (.ref a), some (.int (iI s)), some (.int (iI w)), some (.int (iI ((n : Int) + 1)))] [] 10 := by
    intro T1 w hT1 hw1 hx m
    induction m with
    | zero =>
      intro n hn
      have hn2 : n = 16 := by omega
      subst hn2
      refine vv_iload_n d_TB_fillStage_10 rfl ?_
      refine vv_bipush d_TB_fillStage_11 (by decide +kernel) ?_
      refine vv_icmp_gt (tgt := 38) d_TB_fillStage_13 (by decide) ⟨by omega, by omega⟩ (fun c13 => ?_) (fun c13 => ?_)
      · exact vv_le (by repeat (first | exact lo_le_nil _ | refine lo_le_cons _ ?_ | refine lo_le_none _ ?_)) hx
      · exfalso; omega
    | succ m ih =>
      intro n hn
      have hI := TI_fsh hT1 hK.1 hs hw1 n (by omega)
      have hI2 := (TI_ch2 hI hK.1 hs hw1 (h := (n : Int) + 1) (by omega)).1
      refine vv_iload_n d_TB_fillStage_10 rfl ?_
      refine vv_bipush d_TB_fillStage_11 (by decide +kernel) ?_
      refine vv_icmp_gt (tgt := 38) d_TB_fillStage_13 (by decide) ⟨by omega, by omega⟩ (fun c13 => ?_) (fun c13 => ?_)
      · exfalso; omega
      · skip
        refine vv_aload_n d_TB_fillStage_16 rfl ?_
        refine vv_iload_n d_TB_fillStage_17 rfl ?_
        refine vv_iconst d_TB_fillStage_18 ?_
        refine vv_iload_n d_TB_fillStage_19 rfl ?_
        refine vv_iload_n d_TB_fillStage_20 rfl ?_
        refine vv_nV hw (wc := [ob_TB a qs qc K W F, ar_I qs cI 2312 (fs_h K s w T1 n).1, ar_I qc cI 2312 (fs_h K s w T1 n).2]) (wr := []) [] (c_TB_choose0 (cx_l X) (cx_D X) cI a qs qc K W F s w ((n : Int) + 1) (fs_h K s w T1 n).1 (fs_h K s w T1 n).2 hK hs hw1 (by omega) (TI_bd hI)) lk_TB_75 d_TB_fillStage_21 rfl (rc_at 0 rfl rfl rfl) [0, 1, 2] [] ⟨rfl, rfl⟩ ⟨rfl, rfl, by decide⟩ [0] rfl ⟨⟨by decide, by decide⟩, ⟨by decide, by decide⟩, Nat.le_of_ble_eq_true rfl⟩ ⟨rfl, rfl⟩ ?_
        rintro v w1 p1 t1 ⟨rfl, rfl, rfl⟩
        dsimp only [Option.toList, List.cons_append, List.nil_append, List.append_nil]
        refine vv_aload_n d_TB_fillStage_24 rfl ?_
        refine vv_iload_n d_TB_fillStage_25 rfl ?_
        refine vv_iconst d_TB_fillStage_26 ?_
        refine vv_iload_n d_TB_fillStage_27 rfl ?_
        refine vv_iload_n d_TB_fillStage_28 rfl ?_
        refine vv_nV hw (wc := [ob_TB a qs qc K W F, ar_I qs cI 2312 (ch_up K s 0 w ((n : Int) + 1) (fs_h K s w T1 n)).1, ar_I qc cI 2312 (ch_up K s 0 w ((n : Int) + 1) (fs_h K s w T1 n)).2]) (wr := []) [] (c_TB_choose1 (cx_l X) (cx_D X) cI a qs qc K W F s w ((n : Int) + 1) (ch_up K s 0 w ((n : Int) + 1) (fs_h K s w T1 n)).1 (ch_up K s 0 w ((n : Int) + 1) (fs_h K s w T1 n)).2 hK hs hw1 (by omega) (TI_bd hI2)) lk_TB_75 d_TB_fillStage_29 rfl (rc_at 0 rfl rfl rfl) [0, 1, 2] [] ⟨rfl, rfl⟩ ⟨rfl, rfl, by decide⟩ [0] rfl ⟨⟨by decide, by decide⟩, ⟨by decide, by decide⟩, Nat.le_of_ble_eq_true rfl⟩ ⟨rfl, rfl⟩ ?_
        rintro v w1 p1 t1 ⟨rfl, rfl, rfl⟩
        dsimp only [Option.toList, List.cons_append, List.nil_append, List.append_nil]
        refine vv_iinc d_TB_fillStage_32 rfl rfl (by decide) ?_
        dsimp only [List.set]
        refine vv_goto (tgt := 10) d_TB_fillStage_35 (by decide) ?_
        exact ih (n + 1) (by omega)
  have outer : ∀ m n : Nat, n + m = 16 → VV X (b_TB_fillStage, 4, "SheetTrees$Tables", rm_2) (cq X ([ob_TB a qs qc K W F, ar_I qs cI 2312 T.1, ar_I qc cI 2312 T.2] ++ []) sz (fun r w1 p1 _ => r = none ∧ w1 = [ob_TB a qs qc K W F, ar_I qs cI 2312 (fs_w K s T 16).1, ar_I qc cI 2312 (fs_w K s T 16).2] ∧ p1 = []) rm_2) 0 0 [(cI, .int)] [ob_TB a qs qc K W F, ar_I qs cI 2312 (fs_w K s T n).1, ar_I qc cI 2312 (fs_w K s T n).2] [] [some (.ref a), some (.int (iI s)), some (.int (iI ((n : Int) + 1))), none] [] 2 := by
    intro m
    induction m with
    | zero =>
      intro n hn
      have hn2 : n = 16 := by omega
      subst hn2
      refine vv_iload_n d_TB_fillStage_2 rfl ?_
      refine vv_bipush d_TB_fillStage_3 (by decide +kernel) ?_
      refine vv_icmp_gt (tgt := 44) d_TB_fillStage_5 (by decide) ⟨by omega, by omega⟩ (fun c5 => ?_) (fun c5 => ?_)
      · skip
        exact vv_vret hA hw hr d_TB_fillStage_44 (by decide) (by decide) (by exact ⟨rfl, rfl, rfl⟩)
      · exfalso; omega
    | succ m ih =>
      intro n hn
      have hI := TI_fsw hT hK.1 hs n (by omega)
      refine vv_iload_n d_TB_fillStage_2 rfl ?_
      refine vv_bipush d_TB_fillStage_3 (by decide +kernel) ?_
      refine vv_icmp_gt (tgt := 44) d_TB_fillStage_5 (by decide) ⟨by omega, by omega⟩ (fun c5 => ?_) (fun c5 => ?_)
      · exfalso; omega
      · skip
        refine vv_iconst d_TB_fillStage_8 ?_
        refine vv_istore_n d_TB_fillStage_9 rfl (by decide) ?_
        dsimp only [List.set]
        refine inner (fs_w K s T n) ((n : Int) + 1) hI (by omega) ?_ 16 0 (by omega)
        refine vv_iinc d_TB_fillStage_38 rfl rfl (by decide) ?_
        dsimp only [List.set]
        refine vv_goto (tgt := 2) d_TB_fillStage_41 (by decide) ?_
        exact ih (n + 1) (by omega)
  show VV X (b_TB_fillStage, 4, "SheetTrees$Tables", rm_2) _ 0 0 [(cI, .int)] [ob_TB a qs qc K W F, ar_I qs cI 2312 T.1, ar_I qc cI 2312 T.2] [] [some (.ref a), some (.int (iI s)), none, none] [] 0
  refine vv_iconst d_TB_fillStage_0 ?_
  refine vv_istore_n d_TB_fillStage_1 rfl (by decide) ?_
  dsimp only [List.set]
  exact outer 16 0 (by omega)
end
section
/-! Tables: fillWithoutCuts, fill. The parts stand in a pool. -/
abbrev rm_3 : Room := { frames := 3, cells := 0, slots := 0, locals := 192 }
abbrev rm_4 : Room := { frames := 4, cells := 0, slots := 0, locals := 256 }
theorem sl_31 : ∀ p, p < 32 → ((nI p &&& 31).toBitVec.smod 32).toNat = p := by decide +kernel
theorem ia_shr {m p : Nat} (hm : m < 2147483648) (hp : p < 32) : iI (m : Int) >>> (iI (p : Int) &&& 31) = iI ((m / 2 ^ p : Nat) : Int) := by
  rw [iI_nat, iI_nat, iI_nat]
  exact pk_shrN (by omega) _ p (sl_31 p hp)
theorem ia_and1 {m : Nat} (hm : m < 2147483648) : iI (m : Int) &&& iI 1 = iI ((m % 2 : Nat) : Int) := by
  rw [iI_nat, iI_nat]
  exact pk_andN (by omega) 1 (by decide +kernel)
abbrev ar_Q (q : Nat) (cA : ClassId) (N : Nat) (f : Nat → Option Nat) : Nat × va_E := (q, .inl (cA, N, .inr (.inr (.inr (.inr f)))))
/-- a Part: width, height, turns, count, left -/
abbrev pa_T : Type := Int × Int × Int × Int × Int
abbrev ob_PA (r : pa_T) : va_E := .inr (2, [.int (iI r.1), .int (iI r.2.1), .int (iI r.2.2.1), .int (iI r.2.2.2.1), .int (iI r.2.2.2.2)])
def PP (L : List Nat) (f : Nat → va_E) (aP : Nat → Nat) (R : Nat → pa_T) : Prop := ∀ p : Nat, p < 8 → aP p ∈ L ∧ f (aP p) = ob_PA (R p)
def bit (m p : Nat) : Prop := m / 2 ^ p % 2 = 1

def pp_up (p w h : Int) (T : tp_T) : tp_T := (va_up (va_up T.1 (pl_at 0 0 w h).toNat (w * h * 1024)) (pl_at 0 1 w h).toNat (w * h * 1024), va_up (va_up T.2 (pl_at 0 0 w h).toNat p) (pl_at 0 1 w h).toNat p)
def wc_at (R : Nat → pa_T) (m p : Nat) (T : tp_T) : tp_T :=
  if m / 2 ^ p % 2 = 1 then (if (R p).2.2.1 = 0 then pp_up p (R p).1 (R p).2.1 T else pp_up p (R p).2.1 (R p).1 (pp_up p (R p).1 (R p).2.1 T)) else T
def wc_0 (T : tp_T) : tp_T := (fun j => if j < 2312 then 0 else T.1 j, fun j => if j < 2312 then 8 else T.2 j)
/-- after the parts 7, 6 .. (k of them) -/
def wc_dn (R : Nat → pa_T) (m : Nat) (T : tp_T) : Nat → tp_T
  | 0 => wc_0 T
  | k + 1 => wc_at R m (7 - k) (wc_dn R m T k)
/-- a wanted part has sides 1 .. 16; turns are 0, 1 -/
def PW (R : Nat → pa_T) (m : Nat) : Prop := ∀ p : Nat, p < 8 → m / 2 ^ p % 2 = 1 → (1 ≤ (R p).1 ∧ (R p).1 ≤ 16) ∧ (1 ≤ (R p).2.1 ∧ (R p).2.1 ≤ 16)
def PZ (R : Nat → pa_T) : Prop := ∀ p : Nat, p < 8 → (R p).2.2.1 = 0 ∨ (R p).2.2.1 = 1
set_option maxHeartbeats 4000000 in
set_option maxRecDepth 100000 in
theorem c_TB_fillWithoutCuts (l : Launch) (D : va_G) (cI cP : ClassId) (a qs qc qp m : Nat) (K F : Int) (T : tp_T) (fP : Nat → Option Nat) (L : List Nat) (f : Nat → va_E) (aP : Nat → Nat) (R : Nat → pa_T) (hm : m < 256) (hfP : ∀ p : Nat, p < 8 → fP p = some (aP p)) (hPP : PP L f aP R) (hPW : PW R m) (hPZ : PZ R) : CM l y_TB_fillWithoutCuts b_TB_fillWithoutCuts 3 none rm_2 [.ref a, .ref qp] D [(cI, .int), (cP, .object "SheetTrees$Part")] ([ob_TB a qs qc K (m : Int) F, ar_I qs cI 2312 T.1, ar_I qc cI 2312 T.2, ar_Q qp cP 8 fP] ++ va_pl L f) (fun r w1 p1 _ => r = none ∧ w1 = [ob_TB a qs qc K (m : Int) F, ar_I qs cI 2312 (wc_dn R m T 8).1, ar_I qc cI 2312 (wc_dn R m T 8).2, ar_Q qp cP 8 fP] ∧ p1 = va_pl L f) := by
  refine cm_of (by decide) (Nat.le_of_ble_eq_true rfl) ?_
  intro X sz hl hr hnm hD hA hw
  subst hD
  have loop : ∀ i k : Nat, k + i = 8 → VV X (b_TB_fillWithoutCuts, 3, "SheetTrees$Tables", rm_2) (cq X ([ob_TB a qs qc K (m : Int) F, ar_I qs cI 2312 T.1, ar_I qc cI 2312 T.2, ar_Q qp cP 8 fP] ++ va_pl L f) sz (fun r w1 p1 _ => r = none ∧ w1 = [ob_TB a qs qc K (m : Int) F, ar_I qs cI 2312 (wc_dn R m T 8).1, ar_I qc cI 2312 (wc_dn R m T 8).2, ar_Q qp cP 8 fP] ∧ p1 = va_pl L f) rm_2) 0 0 [(cI, .int), (cP, .object "SheetTrees$Part")] [ob_TB a qs qc K (m : Int) F, ar_I qs cI 2312 (wc_dn R m T k).1, ar_I qc cI 2312 (wc_dn R m T k).2, ar_Q qp cP 8 fP] (va_pl L f) [some (.ref a), some (.ref qp), some (.int (iI (7 - (k : Int))))] [] 22 := by
    intro i
    induction i with
    | zero =>
      intro k hk
      have hk2 : k = 8 := by omega
      subst hk2
      refine vv_iload_n d_TB_fillWithoutCuts_22 rfl ?_
      refine vv_if_lt (tgt := 87) d_TB_fillWithoutCuts_23 (by decide) ⟨by omega, by omega⟩ (fun c23 => ?_) (fun c23 => ?_)
      · skip
        exact vv_vret hA hw hr d_TB_fillWithoutCuts_87 (by decide) (by decide) (by exact ⟨rfl, rfl, rfl⟩)
      · exfalso; omega
    | succ i ih =>
      intro k hk
      obtain ⟨p, hp, hpk⟩ : ∃ p : Nat, (7 : Int) - k = p ∧ 7 - k = p := ⟨7 - k, by omega, rfl⟩
      have hp8 : p < 8 := by omega
      obtain ⟨hin, hat⟩ := hPP p hp8
      have hmp : m / 2 ^ p ≤ m := Nat.div_le_self _ _
      have hmp2 : m / 2 ^ p % 2 < 2 := Nat.mod_lt _ (by decide)
      have h9 := ih (k + 1) (by omega)
      rw [show (7 : Int) - ((k + 1 : Nat) : Int) = (p : Int) + -1 by omega] at h9
      rw [hp]
      generalize hTk : wc_dn R m T k = Tk
      refine vv_iload_n d_TB_fillWithoutCuts_22 rfl ?_
      refine vv_if_lt (tgt := 87) d_TB_fillWithoutCuts_23 (by decide) ⟨by omega, by omega⟩ (fun c23 => ?_) (fun c23 => ?_)
      · exfalso; omega
      · skip
        refine vv_aload_n d_TB_fillWithoutCuts_26 rfl ?_
        refine vv_get d_TB_fillWithoutCuts_27 0 rfl fl_TB_18 rfl ?_
        refine vv_iload_n d_TB_fillWithoutCuts_30 rfl ?_
        refine vv_ishr d_TB_fillWithoutCuts_31 (ia_shr (by omega) (by omega)) ?_
        refine vv_iconst d_TB_fillWithoutCuts_32 ?_
        refine vv_iand d_TB_fillWithoutCuts_33 (ia_and1 (by omega)) ?_
        refine vv_iconst d_TB_fillWithoutCuts_34 ?_
        refine vv_icmp_ne (tgt := 81) d_TB_fillWithoutCuts_35 (by decide) ⟨by omega, by omega⟩ (fun c35 => ?_) (fun c35 => ?_)
        · skip
          refine vv_iinc d_TB_fillWithoutCuts_81 rfl rfl (by decide) ?_
          dsimp only [List.set]
          refine vv_goto (tgt := 22) d_TB_fillWithoutCuts_84 (by decide) ?_
          have e1 : wc_dn R m T (k + 1) = Tk := by
            show wc_at R m (7 - k) (wc_dn R m T k) = _
            rw [hTk, hpk]
            unfold wc_at; rw [if_neg (by omega)]
          rw [e1] at h9
          exact h9
        · skip
          refine vv_aload_n d_TB_fillWithoutCuts_38 rfl ?_
          refine vv_iload_n d_TB_fillWithoutCuts_39 rfl ?_
          refine vv_aload_n d_TB_fillWithoutCuts_40 rfl ?_
          refine vv_iload_n d_TB_fillWithoutCuts_41 rfl ?_
          refine vv_aald d_TB_fillWithoutCuts_42 3 1 rfl rfl (by omega) (show fP ((p : Int).toNat) = some (aP p) by rw [Int.toNat_natCast]; exact hfP p hp8) ?_
          refine vv_getP d_TB_fillWithoutCuts_43 hin hat fl_TB_56 rfl ?_
          refine vv_aload_n d_TB_fillWithoutCuts_46 rfl ?_
          refine vv_iload_n d_TB_fillWithoutCuts_47 rfl ?_
          refine vv_aald d_TB_fillWithoutCuts_48 3 1 rfl rfl (by omega) (show fP ((p : Int).toNat) = some (aP p) by rw [Int.toNat_natCast]; exact hfP p hp8) ?_
          refine vv_getP d_TB_fillWithoutCuts_49 hin hat fl_TB_61 rfl ?_
          refine vv_nV hw (wc := [ob_TB a qs qc K (m : Int) F, ar_I qs cI 2312 Tk.1, ar_I qc cI 2312 Tk.2]) (wr := [ar_Q qp cP 8 fP]) [] (c_TB_putPart (cx_l X) (cx_D X) cI a qs qc K (m : Int) F p (R p).1 (R p).2.1 Tk.1 Tk.2 (by have := hPW p hp8 (by omega); omega) (by have := hPW p hp8 (by omega); omega)) lk_TB_64 d_TB_fillWithoutCuts_52 rfl (rc_at 0 rfl rfl rfl) [0, 1, 2] [3] ⟨rfl, rfl⟩ ⟨rfl, rfl, by decide⟩ [0] rfl ⟨⟨by decide, by decide⟩, ⟨by decide, by decide⟩, Nat.le_of_ble_eq_true rfl⟩ ⟨rfl, rfl⟩ ?_
          rintro v w1 p1 t1 ⟨rfl, rfl, rfl⟩
          dsimp only [Option.toList, List.cons_append, List.nil_append, List.append_nil]
          refine vv_sub (ws' := [ob_TB a qs qc K (m : Int) F, ar_I qs cI 2312 (pp_up p (R p).1 (R p).2.1 Tk).1, ar_I qc cI 2312 (pp_up p (R p).1 (R p).2.1 Tk).2, ar_Q qp cP 8 fP]) [1, 2, 3, 0] rfl rfl ?_
          refine vv_aload_n d_TB_fillWithoutCuts_55 rfl ?_
          refine vv_iload_n d_TB_fillWithoutCuts_56 rfl ?_
          refine vv_aald d_TB_fillWithoutCuts_57 3 1 rfl rfl (by omega) (show fP ((p : Int).toNat) = some (aP p) by rw [Int.toNat_natCast]; exact hfP p hp8) ?_
          refine vv_getP d_TB_fillWithoutCuts_58 hin hat fl_TB_68 rfl ?_
          refine vv_if_eq (tgt := 81) d_TB_fillWithoutCuts_61 (by decide) (by have := hPZ p hp8; omega) (fun c61 => ?_) (fun c61 => ?_)
          · skip
            refine vv_iinc d_TB_fillWithoutCuts_81 rfl rfl (by decide) ?_
            dsimp only [List.set]
            refine vv_goto (tgt := 22) d_TB_fillWithoutCuts_84 (by decide) ?_
            have e1 : wc_dn R m T (k + 1) = pp_up p (R p).1 (R p).2.1 Tk := by
              show wc_at R m (7 - k) (wc_dn R m T k) = _
              rw [hTk, hpk]
              unfold wc_at; rw [if_pos (by omega), if_pos c61]
            rw [e1] at h9
            exact h9
          · skip
            refine vv_aload_n d_TB_fillWithoutCuts_64 rfl ?_
            refine vv_iload_n d_TB_fillWithoutCuts_65 rfl ?_
            refine vv_aload_n d_TB_fillWithoutCuts_66 rfl ?_
            refine vv_iload_n d_TB_fillWithoutCuts_67 rfl ?_
            refine vv_aald d_TB_fillWithoutCuts_68 3 1 rfl rfl (by omega) (show fP ((p : Int).toNat) = some (aP p) by rw [Int.toNat_natCast]; exact hfP p hp8) ?_
            refine vv_getP d_TB_fillWithoutCuts_69 hin hat fl_TB_61 rfl ?_
            refine vv_aload_n d_TB_fillWithoutCuts_72 rfl ?_
            refine vv_iload_n d_TB_fillWithoutCuts_73 rfl ?_
            refine vv_aald d_TB_fillWithoutCuts_74 3 1 rfl rfl (by omega) (show fP ((p : Int).toNat) = some (aP p) by rw [Int.toNat_natCast]; exact hfP p hp8) ?_
            refine vv_getP d_TB_fillWithoutCuts_75 hin hat fl_TB_56 rfl ?_
            refine vv_nV hw (wc := [ob_TB a qs qc K (m : Int) F, ar_I qs cI 2312 (pp_up p (R p).1 (R p).2.1 Tk).1, ar_I qc cI 2312 (pp_up p (R p).1 (R p).2.1 Tk).2]) (wr := [ar_Q qp cP 8 fP]) [] (c_TB_putPart (cx_l X) (cx_D X) cI a qs qc K (m : Int) F p (R p).2.1 (R p).1 (pp_up p (R p).1 (R p).2.1 Tk).1 (pp_up p (R p).1 (R p).2.1 Tk).2 (by have := hPW p hp8 (by omega); omega) (by have := hPW p hp8 (by omega); omega)) lk_TB_64 d_TB_fillWithoutCuts_78 rfl (rc_at 0 rfl rfl rfl) [0, 1, 2] [3] ⟨rfl, rfl⟩ ⟨rfl, rfl, by decide⟩ [0] rfl ⟨⟨by decide, by decide⟩, ⟨by decide, by decide⟩, Nat.le_of_ble_eq_true rfl⟩ ⟨rfl, rfl⟩ ?_
            rintro v w1 p1 t1 ⟨rfl, rfl, rfl⟩
            dsimp only [Option.toList, List.cons_append, List.nil_append, List.append_nil]
            refine vv_sub (ws' := [ob_TB a qs qc K (m : Int) F, ar_I qs cI 2312 (pp_up p (R p).2.1 (R p).1 (pp_up p (R p).1 (R p).2.1 Tk)).1, ar_I qc cI 2312 (pp_up p (R p).2.1 (R p).1 (pp_up p (R p).1 (R p).2.1 Tk)).2, ar_Q qp cP 8 fP]) [1, 2, 3, 0] rfl rfl ?_
            refine vv_iinc d_TB_fillWithoutCuts_81 rfl rfl (by decide) ?_
            dsimp only [List.set]
            refine vv_goto (tgt := 22) d_TB_fillWithoutCuts_84 (by decide) ?_
            have e1 : wc_dn R m T (k + 1) = pp_up p (R p).2.1 (R p).1 (pp_up p (R p).1 (R p).2.1 Tk) := by
              show wc_at R m (7 - k) (wc_dn R m T k) = _
              rw [hTk, hpk]
              unfold wc_at; rw [if_pos (by omega), if_neg c61]
            rw [e1] at h9
            exact h9
  show VV X (b_TB_fillWithoutCuts, 3, "SheetTrees$Tables", rm_2) _ 0 0 [(cI, .int), (cP, .object "SheetTrees$Part")] [ob_TB a qs qc K (m : Int) F, ar_I qs cI 2312 T.1, ar_I qc cI 2312 T.2, ar_Q qp cP 8 fP] (va_pl L f) [some (.ref a), some (.ref qp), none] [] 0
  refine vv_aload_n d_TB_fillWithoutCuts_0 rfl ?_
  refine vv_get d_TB_fillWithoutCuts_1 0 rfl fl_TB_11 rfl ?_
  refine vv_iconst d_TB_fillWithoutCuts_4 ?_
  refine vv_nS hw (wc := [ar_I qs cI 2312 T.1]) (wr := [ob_TB a qs qc K (m : Int) F, ar_I qc cI 2312 T.2, ar_Q qp cP 8 fP]) [] (c_AR_fill (cx_l X) (cx_D X) cI qs 2312 0 T.1 (by decide)) lk_TB_50 d_TB_fillWithoutCuts_5 rfl [1] [0, 2, 3] ⟨rfl, rfl⟩ ⟨rfl, rfl, by decide⟩ [0] rfl ⟨⟨by decide, by decide⟩, ⟨by decide, by decide⟩, Nat.le_of_ble_eq_true rfl⟩ ⟨rfl, rfl⟩ ?_
  rintro v w1 p1 t1 ⟨rfl, rfl, rfl⟩
  dsimp only [Option.toList, List.cons_append, List.nil_append, List.append_nil]
  refine vv_sub (ws' := [ob_TB a qs qc K (m : Int) F, ar_I qs cI 2312 ((wc_0 T).1, T.2).1, ar_I qc cI 2312 ((wc_0 T).1, T.2).2, ar_Q qp cP 8 fP]) [0, 3, 1, 2] rfl rfl ?_
  refine vv_aload_n d_TB_fillWithoutCuts_8 rfl ?_
  refine vv_get d_TB_fillWithoutCuts_9 0 rfl fl_TB_15 rfl ?_
  refine vv_bipush d_TB_fillWithoutCuts_12 (by decide +kernel) ?_
  refine vv_nS hw (wc := [ar_I qc cI 2312 T.2]) (wr := [ob_TB a qs qc K (m : Int) F, ar_I qs cI 2312 (wc_0 T).1, ar_Q qp cP 8 fP]) [] (c_AR_fill (cx_l X) (cx_D X) cI qc 2312 8 T.2 (by decide)) lk_TB_50 d_TB_fillWithoutCuts_14 rfl [2] [0, 1, 3] ⟨rfl, rfl⟩ ⟨rfl, rfl, by decide⟩ [0] rfl ⟨⟨by decide, by decide⟩, ⟨by decide, by decide⟩, Nat.le_of_ble_eq_true rfl⟩ ⟨rfl, rfl⟩ ?_
  rintro v w1 p1 t1 ⟨rfl, rfl, rfl⟩
  dsimp only [Option.toList, List.cons_append, List.nil_append, List.append_nil]
  refine vv_sub (ws' := [ob_TB a qs qc K (m : Int) F, ar_I qs cI 2312 (wc_0 T).1, ar_I qc cI 2312 (wc_0 T).2, ar_Q qp cP 8 fP]) [0, 1, 3, 2] rfl rfl ?_
  refine vv_aload_n d_TB_fillWithoutCuts_17 rfl ?_
  refine vv_alen d_TB_fillWithoutCuts_18 3 1 rfl rfl (v := 8) rfl ?_
  refine vv_iconst d_TB_fillWithoutCuts_19 ?_
  refine vv_isub d_TB_fillWithoutCuts_20 ?_
  refine vv_istore_n d_TB_fillWithoutCuts_21 rfl (by decide) ?_
  dsimp only [List.set]
  exact loop 8 0 (by omega)
end
section
/-! Tables: fill, valueOf -/
theorem TI_wc0 (T : tp_T) : TI (wc_0 T).1 := by
  intro s d w h a1 a2 a3 a4 a5 a6 a7 a8
  have h1 : (pl_at s d w h).toNat < 2312 := by unfold pl_at; omega
  have h2 := area_le a5 a6 a7 a8
  show 0 ≤ (if (pl_at s d w h).toNat < 2312 then 0 else T.1 _) ∧ (if (pl_at s d w h).toNat < 2312 then 0 else T.1 _) ≤ _
  rw [if_pos h1]
  omega
theorem TI_pp {p w h : Int} {T : tp_T} (hT : TI T.1) (hw : 1 ≤ w ∧ w ≤ 16) (hh : 1 ≤ h ∧ h ≤ 16) : TI (pp_up p w h T).1 := by
  have h2 := area_le (w := w) (h := h) (by omega) (by omega) (by omega) (by omega)
  exact TI_up (TI_up hT (by omega) (by omega) (by omega) (by omega) (by omega)) (by omega) (by omega) (by omega) (by omega) (by omega)
theorem TI_wc {R : Nat → pa_T} {m : Nat} {T : tp_T} (hP : PW R m) : ∀ k : Nat, k ≤ 8 → TI (wc_dn R m T k).1
  | 0, _ => TI_wc0 T
  | k + 1, hk => by
    have ih := TI_wc (T := T) hP k (by omega)
    show TI (wc_at R m (7 - k) (wc_dn R m T k)).1
    unfold wc_at
    split
    · rename_i hb
      obtain ⟨h1, h2⟩ := hP (7 - k) (by omega) hb
      split
      · exact TI_pp ih h1 h2
      · exact TI_pp (TI_pp ih h1 h2) h2 h1
    · exact ih
/-- n stages behind the stage F -/
def fg (K F : Int) (T : tp_T) : Nat → tp_T
  | 0 => T
  | n + 1 => fs_w K (F + (n : Int) + 1) (fg K F T n) 16
theorem TI_fg {K F : Int} {T : tp_T} (hT : TI T.1) (hK : 0 ≤ K) (hF : 0 ≤ F) : ∀ n : Nat, F + n ≤ 3 → TI (fg K F T n).1
  | 0, _ => hT
  | n + 1, hn => TI_fsw (TI_fg hT hK hF n (by omega)) hK (by omega) 16 (by omega)
def fl_F (m : Nat) (W F : Int) : Int := if (m : Int) = W then F else 0
def fl_T1 (R : Nat → pa_T) (m : Nat) (W : Int) (T : tp_T) : tp_T := if (m : Int) = W then T else wc_dn R m T 8
/-- the tables behind fill(parts, m, S) -/
def fl_T (K : Int) (R : Nat → pa_T) (m : Nat) (S W F : Int) (T : tp_T) : tp_T := fg K (fl_F m W F) (fl_T1 R m W T) (S - fl_F m W F).toNat
def fl_G (m : Nat) (S W F : Int) : Int := fl_F m W F + ((S - fl_F m W F).toNat : Int)
set_option maxHeartbeats 4000000 in
set_option maxRecDepth 100000 in
theorem c_TB_fill (l : Launch) (D : va_G) (cI cP : ClassId) (a qs qc qp m : Nat) (K W F S : Int) (T : tp_T) (fP : Nat → Option Nat) (L : List Nat) (f : Nat → va_E) (aP : Nat → Nat) (R : Nat → pa_T) (hK : 0 ≤ K ∧ K ≤ 3) (hm : m < 256) (hS : 0 ≤ S ∧ S ≤ 3) (hF : 0 ≤ F ∧ F ≤ 3) (hW : -2147483648 ≤ W ∧ W < 2147483648) (hT : (m : Int) = W → TI T.1) (hfP : ∀ p : Nat, p < 8 → fP p = some (aP p)) (hPP : PP L f aP R) (hPW : PW R m) (hPZ : PZ R) : CM l y_TB_fill b_TB_fill 5 none rm_3 [.ref a, .ref qp, .int (iI (m : Int)), .int (iI S)] D [(cI, .int), (cP, .object "SheetTrees$Part")] ([ob_TB a qs qc K W F, ar_I qs cI 2312 T.1, ar_I qc cI 2312 T.2, ar_Q qp cP 8 fP] ++ va_pl L f) (fun r w1 p1 _ => r = none ∧ w1 = [ob_TB a qs qc K (m : Int) (fl_G m S W F), ar_I qs cI 2312 (fl_T K R m S W F T).1, ar_I qc cI 2312 (fl_T K R m S W F T).2, ar_Q qp cP 8 fP] ∧ p1 = va_pl L f) := by
  refine cm_of (by decide) (Nat.le_of_ble_eq_true rfl) ?_
  intro X sz hl hr hnm hD hA hw
  subst hD
  have loop : ∀ (F1 : Int) (T1 : tp_T), 0 ≤ F1 ∧ F1 ≤ 3 → TI T1.1 → fl_F m W F = F1 → fl_T1 R m W T = T1 → ∀ i k : Nat, k + i = (S - F1).toNat → VV X (b_TB_fill, 5, "SheetTrees$Tables", rm_3) (cq X ([ob_TB a qs qc K W F, ar_I qs cI 2312 T.1, ar_I qc cI 2312 T.2, ar_Q qp cP 8 fP] ++ va_pl L f) sz (fun r w1 p1 _ => r = none ∧ w1 = [ob_TB a qs qc K (m : Int) (fl_G m S W F), ar_I qs cI 2312 (fl_T K R m S W F T).1, ar_I qc cI 2312 (fl_T K R m S W F T).2, ar_Q qp cP 8 fP] ∧ p1 = va_pl L f) rm_3) 0 0 [(cI, .int), (cP, .object "SheetTrees$Part")] [ob_TB a qs qc K (m : Int) (F1 + (k : Int)), ar_I qs cI 2312 (fg K F1 T1 k).1, ar_I qc cI 2312 (fg K F1 T1 k).2, ar_Q qp cP 8 fP] (va_pl L f) [some (.ref a), some (.ref qp), some (.int (iI (m : Int))), some (.int (iI S)), some (.int (iI (F1 + (k : Int) + 1)))] [] 31 := by
    intro F1 T1 hF1 hT1 e1 e2 i
    induction i with
    | zero =>
      intro k hk
      refine vv_iload d_TB_fill_31 rfl ?_
      refine vv_iload_n d_TB_fill_33 rfl ?_
      refine vv_icmp_gt (tgt := 61) d_TB_fill_34 (by decide) ⟨by omega, by omega⟩ (fun c34 => ?_) (fun c34 => ?_)
      · skip
        exact vv_vret hA hw hr d_TB_fill_61 (by decide) (by decide) ⟨rfl, by unfold fl_T fl_G; rw [e1, e2, ← show k = (S - F1).toNat by omega], rfl⟩
      · exfalso; omega
    | succ i ih =>
      intro k hk
      have hI := TI_fg hT1 hK.1 hF1.1 k (by omega)
      refine vv_iload d_TB_fill_31 rfl ?_
      refine vv_iload_n d_TB_fill_33 rfl ?_
      refine vv_icmp_gt (tgt := 61) d_TB_fill_34 (by decide) ⟨by omega, by omega⟩ (fun c34 => ?_) (fun c34 => ?_)
      · exfalso; omega
      · skip
        refine vv_iload d_TB_fill_37 rfl ?_
        refine vv_iconst d_TB_fill_39 ?_
        refine vv_icmp_gt (tgt := 61) d_TB_fill_40 (by decide) ⟨by omega, by omega⟩ (fun c40 => ?_) (fun c40 => ?_)
        · exfalso; omega
        · skip
          refine vv_aload_n d_TB_fill_43 rfl ?_
          refine vv_iload d_TB_fill_44 rfl ?_
          refine vv_nV hw (wc := [ob_TB a qs qc K (m : Int) (F1 + (k : Int)), ar_I qs cI 2312 (fg K F1 T1 k).1, ar_I qc cI 2312 (fg K F1 T1 k).2]) (wr := [ar_Q qp cP 8 fP]) [] (c_TB_fillStage (cx_l X) (cx_D X) cI a qs qc K (m : Int) (F1 + (k : Int)) (F1 + (k : Int) + 1) (fg K F1 T1 k) hK (by omega) hI) lk_TB_32 d_TB_fill_46 rfl (rc_at 0 rfl rfl rfl) [0, 1, 2] [3] ⟨rfl, rfl⟩ ⟨rfl, rfl, by decide⟩ [0] rfl ⟨⟨by decide, by decide⟩, ⟨by decide, by decide⟩, Nat.le_of_ble_eq_true rfl⟩ ⟨rfl, rfl⟩ ?_
          rintro v w1 p1 t1 ⟨rfl, rfl, rfl⟩
          dsimp only [Option.toList, List.cons_append, List.nil_append, List.append_nil]
          refine vv_sub (ws' := [ob_TB a qs qc K (m : Int) (F1 + (k : Int)), ar_I qs cI 2312 (fg K F1 T1 (k + 1)).1, ar_I qc cI 2312 (fg K F1 T1 (k + 1)).2, ar_Q qp cP 8 fP]) [1, 2, 3, 0] rfl rfl ?_
          refine vv_aload_n d_TB_fill_49 rfl ?_
          refine vv_iload d_TB_fill_50 rfl ?_
          refine vv_put hw d_TB_fill_52 0 rfl fp_TB_22 rfl rfl (Nat.le_of_ble_eq_true rfl) ?_
          dsimp only [List.set]
          refine vv_iinc d_TB_fill_55 rfl rfl (by decide) ?_
          dsimp only [List.set]
          refine vv_goto (tgt := 31) d_TB_fill_58 (by decide) ?_
          have h9 := ih (k + 1) (by omega)
          rw [show F1 + ((k + 1 : Nat) : Int) = F1 + (k : Int) + 1 by omega] at h9
          exact h9
  show VV X (b_TB_fill, 5, "SheetTrees$Tables", rm_3) _ 0 0 [(cI, .int), (cP, .object "SheetTrees$Part")] [ob_TB a qs qc K W F, ar_I qs cI 2312 T.1, ar_I qc cI 2312 T.2, ar_Q qp cP 8 fP] (va_pl L f) [some (.ref a), some (.ref qp), some (.int (iI (m : Int))), some (.int (iI S)), none] [] 0
  refine vv_iload_n d_TB_fill_0 rfl ?_
  refine vv_aload_n d_TB_fill_1 rfl ?_
  refine vv_get d_TB_fill_2 0 rfl fl_TB_18 rfl ?_
  refine vv_icmp_eq (tgt := 23) d_TB_fill_5 (by decide) ⟨by omega, by omega⟩ (fun c5 => ?_) (fun c5 => ?_)
  · skip
    refine vv_aload_n d_TB_fill_23 rfl ?_
    refine vv_get d_TB_fill_24 0 rfl fl_TB_22 rfl ?_
    refine vv_iconst d_TB_fill_27 ?_
    refine vv_iadd d_TB_fill_28 ?_
    refine vv_istore d_TB_fill_29 rfl (by decide) ?_
    dsimp only [List.set]
    subst c5
    have h9 := loop F T hF (hT rfl) (by unfold fl_F; rw [if_pos rfl]) (by unfold fl_T1; rw [if_pos rfl]) (S - F).toNat 0 (by omega)
    rw [show F + ((0 : Nat) : Int) = F by omega] at h9
    exact h9
  · skip
    refine vv_aload_n d_TB_fill_8 rfl ?_
    refine vv_iload_n d_TB_fill_9 rfl ?_
    refine vv_put hw d_TB_fill_10 0 rfl fp_TB_18 rfl rfl (Nat.le_of_ble_eq_true rfl) ?_
    dsimp only [List.set]
    refine vv_aload_n d_TB_fill_13 rfl ?_
    refine vv_iconst d_TB_fill_14 ?_
    refine vv_put hw d_TB_fill_15 0 rfl fp_TB_22 rfl rfl (Nat.le_of_ble_eq_true rfl) ?_
    dsimp only [List.set]
    refine vv_aload_n d_TB_fill_18 rfl ?_
    refine vv_aload_n d_TB_fill_19 rfl ?_
    refine vv_mV hw (wc := [ob_TB a qs qc K (m : Int) 0, ar_I qs cI 2312 T.1, ar_I qc cI 2312 T.2, ar_Q qp cP 8 fP]) (wr := []) [] (c_TB_fillWithoutCuts (cx_l X) (cx_D X) cI cP a qs qc qp m K 0 T fP L f aP R hm hfP hPP hPW hPZ) lk_TB_28 d_TB_fill_20 rfl (rc_at 0 rfl rfl rfl) [0, 1, 2, 3] [] ⟨rfl, rfl⟩ ⟨rfl, rfl, by decide⟩ [0, 1] rfl ⟨⟨by decide, by decide⟩, ⟨by decide, by decide⟩, Nat.le_of_ble_eq_true rfl⟩ ⟨rfl, rfl⟩ ?_
    rintro v w1 p1 t1 ⟨rfl, rfl, rfl⟩
    dsimp only [Option.toList, List.cons_append, List.nil_append, List.append_nil]
    refine vv_aload_n d_TB_fill_23 rfl ?_
    refine vv_get d_TB_fill_24 0 rfl fl_TB_22 rfl ?_
    refine vv_iconst d_TB_fill_27 ?_
    refine vv_iadd d_TB_fill_28 ?_
    refine vv_istore d_TB_fill_29 rfl (by decide) ?_
    dsimp only [List.set]
    have h9 := loop 0 (wc_dn R m T 8) (by omega) (TI_wc hPW 8 (by omega)) (by unfold fl_F; rw [if_neg c5]) (by unfold fl_T1; rw [if_neg c5]) (S - 0).toNat 0 (by omega)
    exact h9
set_option maxHeartbeats 4000000 in
set_option maxRecDepth 100000 in
theorem c_TB_valueOf (l : Launch) (D : va_G) (cI : ClassId) (a qs qc : Nat) (K W F s d w h : Int) (g : Nat → Int) (hz : -2147483648 ≤ pl_at s d w h ∧ pl_at s d w h < 2147483648) (hb : sc_bd g) : CP l y_TB_valueOf b_TB_valueOf 5 (some .int) rm_2 [.ref a, .int (iI s), .int (iI d), .int (iI w), .int (iI h)] D [(cI, .int)] ([ob_TB a qs qc K W F, ar_I qs cI 2312 g] ++ []) (fun v => v = some (.int (iI ((rd_scoreAt g (pl_at s d w h) + 1024 - 1).tdiv 1024)))) := by
  refine cp_of (by decide) (Nat.le_of_ble_eq_true rfl) ?_
  intro X sz hl hr hD hA
  subst hD
  have h1 := hb (pl_at s d w h)
  show VV X (b_TB_valueOf, 5, "SheetTrees$Tables", rm_2) _ 0 0 [(cI, .int)] [ob_TB a qs qc K W F, ar_I qs cI 2312 g] [] [some (.ref a), some (.int (iI s)), some (.int (iI d)), some (.int (iI w)), some (.int (iI h))] [] 0
  refine vv_aload_n d_TB_valueOf_0 rfl ?_
  refine vv_iload_n d_TB_valueOf_1 rfl ?_
  refine vv_iload_n d_TB_valueOf_2 rfl ?_
  refine vv_iload_n d_TB_valueOf_3 rfl ?_
  refine vv_iload d_TB_valueOf_4 rfl ?_
  refine vv_pV (wc := [ob_TB a qs qc K W F, ar_I qs cI 2312 g]) (plc := []) [] (c_TB_scoreOf (cx_l X) (cx_D X) cI a qs qc K W F s d w h g hz) lk_TB_36 d_TB_valueOf_6 rfl (rc_at 0 rfl rfl rfl) [0, 1] ⟨rfl, rfl, Or.inl rfl⟩ [0] rfl ⟨⟨by decide, by decide⟩, ⟨by decide, by decide⟩, Nat.le_of_ble_eq_true rfl⟩ ⟨rfl, rfl⟩ ?_
  intro v hv
  subst hv
  dsimp only [Option.toList, List.cons_append, List.nil_append, List.append_nil]
  refine vv_sipush d_TB_valueOf_9 (by decide +kernel) ?_
  refine vv_iadd d_TB_valueOf_12 ?_
  refine vv_iconst d_TB_valueOf_13 ?_
  refine vv_isub d_TB_valueOf_14 ?_
  refine vv_sipush d_TB_valueOf_15 (by decide +kernel) ?_
  refine vv_idiv d_TB_valueOf_18 (by omega) ?_
  exact vp_iret hA hr d_TB_valueOf_19 (by decide) (by decide) (by rfl)
end
section
/-! Piece, areas, Layout.addPiece -/
theorem ia_or (a b : Nat) : iI (a : Int) ||| iI (b : Int) = iI ((a ||| b : Nat) : Int) := by
  rw [iI_nat, iI_nat, iI_nat]
  apply Int32.toBitVec_inj.1
  show BitVec.ofNat 32 a ||| BitVec.ofNat 32 b = BitVec.ofNat 32 (a ||| b)
  apply BitVec.eq_of_getLsbD_eq
  intro i hi
  simp [hi]
theorem ia_shl5 {a : Nat} (h : a < 67108864) : iI (a : Int) <<< (iI 5 &&& 31) = iI ((a * 32 : Nat) : Int) := by
  rw [iI_nat, iI_nat]
  exact pk_shlN _ 5 (by decide +kernel) (by omega)
theorem ia_or5 {a b : Nat} (hb : b < 32) : iI ((a * 32 : Nat) : Int) ||| iI (b : Int) = iI ((a * 32 + b : Nat) : Int) := by
  rw [ia_or]
  have h1 := Nat.two_pow_add_eq_or_of_lt (i := 5) hb a
  rw [show a * 32 = 2 ^ 5 * a by omega, h1]
theorem ia_and31 {a : Nat} (h : a < 2147483648) : iI (a : Int) &&& iI 31 = iI ((a % 32 : Nat) : Int) := by
  rw [iI_nat, iI_nat]
  exact pk_andN (by omega) 5 (by decide +kernel)
/-- a piece in one number, and its fields -/
def pk_z (k x y w h : Int) : Int := (((k * 32 + x) * 32 + y) * 32 + w) * 32 + h
def pf_z (P f : Int) : Int := P / 2 ^ (5 * (4 - f)).toNat % 32
set_option maxHeartbeats 4000000 in
set_option maxRecDepth 100000 in
theorem c_PI_of (l : Launch) (D : va_G) (k x y w h : Int) (hk : 0 ≤ k ∧ k < 32) (hx : 0 ≤ x ∧ x < 32) (hy : 0 ≤ y ∧ y < 32) (hw : 0 ≤ w ∧ w < 32) (hh : 0 ≤ h ∧ h < 32) : CP l y_PI_of b_PI_of 5 (some .int) rm_0 [.int (iI k), .int (iI x), .int (iI y), .int (iI w), .int (iI h)] D [] ([] ++ []) (fun v => v = some (.int (iI (pk_z k x y w h)))) := by
  refine cp_of (by decide) (Nat.le_of_ble_eq_true rfl) ?_
  intro X sz hl hr hD hA
  subst hD
  obtain ⟨k, rfl⟩ := Int.eq_ofNat_of_zero_le hk.1
  obtain ⟨x, rfl⟩ := Int.eq_ofNat_of_zero_le hx.1
  obtain ⟨y, rfl⟩ := Int.eq_ofNat_of_zero_le hy.1
  obtain ⟨w, rfl⟩ := Int.eq_ofNat_of_zero_le hw.1
  obtain ⟨h, rfl⟩ := Int.eq_ofNat_of_zero_le hh.1
  show VV X (b_PI_of, 5, "SheetTrees$Piece", rm_0) _ 0 0 [] [] [] [some (.int (iI (k : Int))), some (.int (iI (x : Int))), some (.int (iI (y : Int))), some (.int (iI (w : Int))), some (.int (iI (h : Int)))] [] 0
  refine vv_iload_n d_PI_of_0 rfl ?_
  refine vv_iconst d_PI_of_1 ?_
  refine vv_ishl d_PI_of_2 (ia_shl5 (by omega)) ?_
  refine vv_iload_n d_PI_of_3 rfl ?_
  refine vv_ior d_PI_of_4 (ia_or5 (by omega)) ?_
  refine vv_iconst d_PI_of_5 ?_
  refine vv_ishl d_PI_of_6 (ia_shl5 (by omega)) ?_
  refine vv_iload_n d_PI_of_7 rfl ?_
  refine vv_ior d_PI_of_8 (ia_or5 (by omega)) ?_
  refine vv_iconst d_PI_of_9 ?_
  refine vv_ishl d_PI_of_10 (ia_shl5 (by omega)) ?_
  refine vv_iload_n d_PI_of_11 rfl ?_
  refine vv_ior d_PI_of_12 (ia_or5 (by omega)) ?_
  refine vv_iconst d_PI_of_13 ?_
  refine vv_ishl d_PI_of_14 (ia_shl5 (by omega)) ?_
  refine vv_iload d_PI_of_15 rfl ?_
  refine vv_ior d_PI_of_17 (ia_or5 (by omega)) ?_
  exact vp_iret hA hr d_PI_of_18 (by decide) (by decide) (by unfold pk_z; rfl)
set_option maxHeartbeats 4000000 in
set_option maxRecDepth 100000 in
theorem c_PI_field (l : Launch) (D : va_G) (q f : Int) (hq : 0 ≤ q ∧ q < 2147483648) (hf : 0 ≤ f ∧ f ≤ 4) : CP l y_PI_field b_PI_field 2 (some .int) rm_0 [.int (iI q), .int (iI f)] D [] ([] ++ []) (fun v => v = some (.int (iI (pf_z q f)))) := by
  refine cp_of (by decide) (Nat.le_of_ble_eq_true rfl) ?_
  intro X sz hl hr hD hA
  subst hD
  obtain ⟨q, rfl⟩ := Int.eq_ofNat_of_zero_le hq.1
  obtain ⟨f, rfl⟩ := Int.eq_ofNat_of_zero_le hf.1
  have e5 : 5 * (4 - (f : Int)) = ((5 * (4 - f) : Nat) : Int) := by omega
  have hle : q / 2 ^ (5 * (4 - f)) ≤ q := Nat.div_le_self _ _
  show VV X (b_PI_field, 2, "SheetTrees$Piece", rm_0) _ 0 0 [] [] [] [some (.int (iI (q : Int))), some (.int (iI (f : Int)))] [] 0
  refine vv_iload_n d_PI_field_0 rfl ?_
  refine vv_iconst d_PI_field_1 ?_
  refine vv_iconst d_PI_field_2 ?_
  refine vv_iload_n d_PI_field_3 rfl ?_
  refine vv_isub d_PI_field_4 ?_
  refine vv_imul d_PI_field_5 ?_
  rw [e5]
  refine vv_ishr d_PI_field_6 (ia_shr (by omega) (by omega)) ?_
  refine vv_bipush d_PI_field_7 (by decide +kernel) ?_
  refine vv_iand d_PI_field_9 (ia_and31 (by omega)) ?_
  exact vp_iret hA hr d_PI_field_10 (by decide) (by decide) (by unfold pf_z; rw [e5, Int.toNat_natCast]; norm_cast)
set_option maxHeartbeats 4000000 in
set_option maxRecDepth 100000 in
theorem c_PI_isAtLeast (l : Launch) (D : va_G) (q s : Int) (hq : 0 ≤ q ∧ q < 2147483648) (hs : 1 ≤ s ∧ s ≤ 16) : CP l y_PI_isAtLeast b_PI_isAtLeast 2 (some .boolean) rm_1 [.int (iI q), .int (iI s)] D [] ([] ++ []) (fun v => v = some (.int (iI (if s ≤ pf_z q 3 ∧ s ≤ pf_z q 4 then 1 else 0)))) := by
  refine cp_of (by decide) (Nat.le_of_ble_eq_true rfl) ?_
  intro X sz hl hr hD hA
  subst hD
  have h3 : 0 ≤ pf_z q 3 ∧ pf_z q 3 < 32 := by unfold pf_z; omega
  have h4 : 0 ≤ pf_z q 4 ∧ pf_z q 4 < 32 := by unfold pf_z; omega
  show VV X (b_PI_isAtLeast, 2, "SheetTrees$Piece", rm_1) _ 0 0 [] [] [] [some (.int (iI q)), some (.int (iI s))] [] 0
  refine vv_iload_n d_PI_isAtLeast_0 rfl ?_
  refine vv_iconst d_PI_isAtLeast_1 ?_
  refine vv_pS (wc := []) (plc := []) [] (c_PI_field (cx_l X) (cx_D X) q 3 hq (by omega)) lk_PI_9 d_PI_isAtLeast_2 rfl [] ⟨rfl, rfl, Or.inl rfl⟩ [] rfl ⟨⟨by decide, by decide⟩, ⟨by decide, by decide⟩, Nat.le_of_ble_eq_true rfl⟩ ⟨rfl, rfl⟩ ?_
  intro v hv
  subst hv
  dsimp only [Option.toList, List.cons_append, List.nil_append, List.append_nil]
  refine vv_iload_n d_PI_isAtLeast_5 rfl ?_
  refine vv_icmp_lt (tgt := 22) d_PI_isAtLeast_6 (by decide) ⟨by omega, by omega⟩ (fun c6 => ?_) (fun c6 => ?_)
  · skip
    refine vv_iconst d_PI_isAtLeast_22 ?_
    exact vp_zret hA hr rfl d_PI_isAtLeast_23 (by decide) (by decide) (by rw [if_neg (by omega)])
  · skip
    refine vv_iload_n d_PI_isAtLeast_9 rfl ?_
    refine vv_iconst d_PI_isAtLeast_10 ?_
    refine vv_pS (wc := []) (plc := []) [] (c_PI_field (cx_l X) (cx_D X) q 4 hq (by omega)) lk_PI_9 d_PI_isAtLeast_11 rfl [] ⟨rfl, rfl, Or.inl rfl⟩ [] rfl ⟨⟨by decide, by decide⟩, ⟨by decide, by decide⟩, Nat.le_of_ble_eq_true rfl⟩ ⟨rfl, rfl⟩ ?_
    intro v hv
    subst hv
    dsimp only [Option.toList, List.cons_append, List.nil_append, List.append_nil]
    refine vv_iload_n d_PI_isAtLeast_14 rfl ?_
    refine vv_icmp_lt (tgt := 22) d_PI_isAtLeast_15 (by decide) ⟨by omega, by omega⟩ (fun c15 => ?_) (fun c15 => ?_)
    · skip
      refine vv_iconst d_PI_isAtLeast_22 ?_
      exact vp_zret hA hr rfl d_PI_isAtLeast_23 (by decide) (by decide) (by rw [if_neg (by omega)])
    · skip
      refine vv_iconst d_PI_isAtLeast_18 ?_
      refine vv_goto (tgt := 23) d_PI_isAtLeast_19 (by decide) ?_
      exact vp_zret hA hr rfl d_PI_isAtLeast_23 (by decide) (by decide) (by rw [if_pos (by omega)])
/-- a Sheet: width, height, cents, stock, unused -/
abbrev ob_SH (r : pa_T) : va_E := .inr (3, [.int (iI r.1), .int (iI r.2.1), .int (iI r.2.2.1), .int (iI r.2.2.2.1), .int (iI r.2.2.2.2)])
set_option maxHeartbeats 4000000 in
set_option maxRecDepth 100000 in
theorem c_PA_area (l : Launch) (D : va_G) (L : List Nat) (f : Nat → va_E) (a : Nat) (r : pa_T) (hin : a ∈ L) (hat : f a = ob_PA r) : CP l y_PA_area b_PA_area 1 (some .int) rm_0 [.ref a] D [] ([] ++ va_pl L f) (fun v => v = some (.int (iI (r.1 * r.2.1)))) := by
  refine cp_of (by decide) (Nat.le_of_ble_eq_true rfl) ?_
  intro X sz hl hr hD hA
  subst hD
  show VV X (b_PA_area, 1, "SheetTrees$Part", rm_0) _ 0 0 [] [] (va_pl L f) [some (.ref a)] [] 0
  refine vv_aload_n d_PA_area_0 rfl ?_
  refine vv_getP d_PA_area_1 hin hat fl_PA_7 rfl ?_
  refine vv_aload_n d_PA_area_4 rfl ?_
  refine vv_getP d_PA_area_5 hin hat fl_PA_13 rfl ?_
  refine vv_imul d_PA_area_8 ?_
  exact vp_iret hA hr d_PA_area_9 (by decide) (by decide) (by rfl)
set_option maxHeartbeats 4000000 in
set_option maxRecDepth 100000 in
theorem c_SH_area (l : Launch) (D : va_G) (L : List Nat) (f : Nat → va_E) (a : Nat) (r : pa_T) (hin : a ∈ L) (hat : f a = ob_SH r) : CP l y_SH_area b_SH_area 1 (some .int) rm_0 [.ref a] D [] ([] ++ va_pl L f) (fun v => v = some (.int (iI (r.1 * r.2.1)))) := by
  refine cp_of (by decide) (Nat.le_of_ble_eq_true rfl) ?_
  intro X sz hl hr hD hA
  subst hD
  show VV X (b_SH_area, 1, "SheetTrees$Sheet", rm_0) _ 0 0 [] [] (va_pl L f) [some (.ref a)] [] 0
  refine vv_aload_n d_SH_area_0 rfl ?_
  refine vv_getP d_SH_area_1 hin hat fl_SH_7 rfl ?_
  refine vv_aload_n d_SH_area_4 rfl ?_
  refine vv_getP d_SH_area_5 hin hat fl_SH_13 rfl ?_
  refine vv_imul d_SH_area_8 ?_
  exact vp_iret hA hr d_SH_area_9 (by decide) (by decide) (by rfl)
/-- Layout's state: pieces so far, cuts, minutes, the pieces' row, copies -/
abbrev ly_T : Type := Int × Int × Int × (Nat → Int) × (Nat → Int)
abbrev ob_LY (a qt qp qo : Nat) (way : Int) (st : ly_T) : Nat × va_E := (a, .inr (1, [.ref qt, .ref qp, .ref qo, .int (iI st.1), .int (iI way), .int (iI st.2.1), .int (iI st.2.2.1)]))
def ly_add (c q : Int) (st : ly_T) : ly_T := (if st.1 < 256 then st.1 + 1 else st.1, st.2.1, st.2.2.1, (if st.1 < 256 then va_up st.2.2.2.1 st.1.toNat q else st.2.2.2.1), (if 0 ≤ c ∧ c < 8 then va_up st.2.2.2.2 c.toNat (st.2.2.2.2 c.toNat + 1) else st.2.2.2.2))
set_option maxHeartbeats 4000000 in
set_option maxRecDepth 100000 in
theorem c_LY_addPiece (l : Launch) (D : va_G) (cI : ClassId) (a qt qp qo : Nat) (way c q : Int) (st : ly_T) (hN : 0 ≤ st.1 ∧ st.1 ≤ 256) (hc : -2147483648 ≤ c ∧ c < 2147483648) : CM l y_LY_addPiece b_LY_addPiece 3 none rm_0 [.ref a, .int (iI c), .int (iI q)] D [(cI, .int)] ([ob_LY a qt qp qo way st, ar_I qp cI 256 st.2.2.2.1, ar_I qo cI 8 st.2.2.2.2] ++ []) (fun r w1 p1 _ => r = none ∧ w1 = [ob_LY a qt qp qo way (ly_add c q st), ar_I qp cI 256 (ly_add c q st).2.2.2.1, ar_I qo cI 8 (ly_add c q st).2.2.2.2] ∧ p1 = []) := by
  refine cm_of (by decide) (Nat.le_of_ble_eq_true rfl) ?_
  intro X sz hl hr hnm hD hA hw
  subst hD
  obtain ⟨N, C, Mi, ps, co⟩ := st
  dsimp only at hN ⊢
  show VV X (b_LY_addPiece, 3, "SheetTrees$Layout", rm_0) _ 0 0 [(cI, .int)] [ob_LY a qt qp qo way (N, C, Mi, ps, co), ar_I qp cI 256 ps, ar_I qo cI 8 co] [] [some (.ref a), some (.int (iI c)), some (.int (iI q))] [] 0
  refine vv_aload_n d_LY_addPiece_0 rfl ?_
  refine vv_get d_LY_addPiece_1 0 rfl fl_LY_18 rfl ?_
  refine vv_aload_n d_LY_addPiece_4 rfl ?_
  refine vv_get d_LY_addPiece_5 0 rfl fl_LY_9 rfl ?_
  refine vv_alen d_LY_addPiece_8 1 0 rfl rfl (v := 256) rfl ?_
  refine vv_icmp_ge (tgt := 29) d_LY_addPiece_9 (by decide) ⟨by omega, by omega⟩ (fun c9 => ?_) (fun c9 => ?_)
  · skip
    refine vv_iload_n d_LY_addPiece_29 rfl ?_
    refine vv_if_lt (tgt := 52) d_LY_addPiece_30 (by decide) (by omega) (fun c30 => ?_) (fun c30 => ?_)
    · skip
      exact vv_vret hA hw hr d_LY_addPiece_52 (by decide) (by decide) ⟨rfl, by unfold ly_add; dsimp only; rw [if_neg (by omega), if_neg (by omega), if_neg (by omega)], rfl⟩
    · skip
      refine vv_iload_n d_LY_addPiece_33 rfl ?_
      refine vv_aload_n d_LY_addPiece_34 rfl ?_
      refine vv_get d_LY_addPiece_35 0 rfl fl_LY_15 rfl ?_
      refine vv_alen d_LY_addPiece_38 2 0 rfl rfl (v := 8) rfl ?_
      refine vv_icmp_ge (tgt := 52) d_LY_addPiece_39 (by decide) ⟨by omega, by omega⟩ (fun c39 => ?_) (fun c39 => ?_)
      · skip
        exact vv_vret hA hw hr d_LY_addPiece_52 (by decide) (by decide) ⟨rfl, by unfold ly_add; dsimp only; rw [if_neg (by omega), if_neg (by omega), if_neg (by omega)], rfl⟩
      · skip
        refine vv_aload_n d_LY_addPiece_42 rfl ?_
        refine vv_get d_LY_addPiece_43 0 rfl fl_LY_15 rfl ?_
        refine vv_iload_n d_LY_addPiece_46 rfl ?_
        refine vv_dup2 d_LY_addPiece_47 rfl rfl ?_
        refine vv_iald d_LY_addPiece_48 2 0 rfl rfl (by omega) ?_
        refine vv_iconst d_LY_addPiece_49 ?_
        refine vv_iadd d_LY_addPiece_50 ?_
        refine vv_iast hw d_LY_addPiece_51 2 0 rfl rfl (by omega) ?_
        dsimp only [List.set]
        exact vv_vret hA hw hr d_LY_addPiece_52 (by decide) (by decide) ⟨rfl, by unfold ly_add; dsimp only; rw [if_neg (by omega), if_neg (by omega), if_pos (by omega)], rfl⟩
  · skip
    refine vv_aload_n d_LY_addPiece_12 rfl ?_
    refine vv_get d_LY_addPiece_13 0 rfl fl_LY_9 rfl ?_
    refine vv_aload_n d_LY_addPiece_16 rfl ?_
    refine vv_dup d_LY_addPiece_17 rfl ?_
    refine vv_get d_LY_addPiece_18 0 rfl fl_LY_18 rfl ?_
    refine vv_dup_x1 d_LY_addPiece_21 rfl rfl ?_
    refine vv_iconst d_LY_addPiece_22 ?_
    refine vv_iadd d_LY_addPiece_23 ?_
    refine vv_put hw d_LY_addPiece_24 0 rfl fp_LY_18 rfl rfl (Nat.le_of_ble_eq_true rfl) ?_
    dsimp only [List.set]
    refine vv_iload_n d_LY_addPiece_27 rfl ?_
    refine vv_iast hw d_LY_addPiece_28 1 0 rfl rfl (by omega) ?_
    dsimp only [List.set]
    refine vv_iload_n d_LY_addPiece_29 rfl ?_
    refine vv_if_lt (tgt := 52) d_LY_addPiece_30 (by decide) (by omega) (fun c30 => ?_) (fun c30 => ?_)
    · skip
      exact vv_vret hA hw hr d_LY_addPiece_52 (by decide) (by decide) ⟨rfl, by unfold ly_add; dsimp only; rw [if_pos (by omega), if_pos (by omega), if_neg (by omega)], rfl⟩
    · skip
      refine vv_iload_n d_LY_addPiece_33 rfl ?_
      refine vv_aload_n d_LY_addPiece_34 rfl ?_
      refine vv_get d_LY_addPiece_35 0 rfl fl_LY_15 rfl ?_
      refine vv_alen d_LY_addPiece_38 2 0 rfl rfl (v := 8) rfl ?_
      refine vv_icmp_ge (tgt := 52) d_LY_addPiece_39 (by decide) ⟨by omega, by omega⟩ (fun c39 => ?_) (fun c39 => ?_)
      · skip
        exact vv_vret hA hw hr d_LY_addPiece_52 (by decide) (by decide) ⟨rfl, by unfold ly_add; dsimp only; rw [if_pos (by omega), if_pos (by omega), if_neg (by omega)], rfl⟩
      · skip
        refine vv_aload_n d_LY_addPiece_42 rfl ?_
        refine vv_get d_LY_addPiece_43 0 rfl fl_LY_15 rfl ?_
        refine vv_iload_n d_LY_addPiece_46 rfl ?_
        refine vv_dup2 d_LY_addPiece_47 rfl rfl ?_
        refine vv_iald d_LY_addPiece_48 2 0 rfl rfl (by omega) ?_
        refine vv_iconst d_LY_addPiece_49 ?_
        refine vv_iadd d_LY_addPiece_50 ?_
        refine vv_iast hw d_LY_addPiece_51 2 0 rfl rfl (by omega) ?_
        dsimp only [List.set]
        exact vv_vret hA hw hr d_LY_addPiece_52 (by decide) (by decide) ⟨rfl, by unfold ly_add; dsimp only; rw [if_pos (by omega), if_pos (by omega), if_pos (by omega)], rfl⟩
end
section
/-! Layout.layTree -/
abbrev rm_5 : Room := { frames := 5, cells := 0, slots := 0, locals := 320 }
abbrev rm_6 : Room := { frames := 6, cells := 0, slots := 0, locals := 384 }
abbrev rm_7 : Room := { frames := 7, cells := 0, slots := 0, locals := 448 }
abbrev rm_8 : Room := { frames := 8, cells := 0, slots := 0, locals := 512 }
/-- choices: a part, waste (8), or 8 + c for a cut at c -/
def CI (ch : Nat → Int) : Prop := ∀ s d w h : Int, 0 ≤ s → s ≤ 3 → 0 ≤ d → d ≤ 1 → 1 ≤ w → w ≤ 16 → 1 ≤ h → h ≤ 16 → 0 ≤ ch (pl_at s d w h).toNat ∧ (8 < ch (pl_at s d w h).toNat → 1 ≤ s ∧ ch (pl_at s d w h).toNat - 8 < (if d = 0 then w else h))
def LN (st : ly_T) : Prop := 0 ≤ st.1 ∧ st.1 ≤ 256
theorem LN_add {c q : Int} {st : ly_T} (h : LN st) : LN (ly_add c q st) := by
  unfold LN ly_add at *
  dsimp only
  split <;> omega
def ly_cut (m : Int) (st : ly_T) : ly_T := (st.1, st.2.1 + 1, st.2.2.1 + m, st.2.2.2)
def lt0_go (rec : Int → Int → Int → Int → ly_T → ly_T) (ch : Nat → Int) (K s x y w h : Int) : Nat → Int → ly_T → ly_T
  | 0, _, st => st
  | n + 1, fr, st => if fr < w then (if rd_choiceAt ch (pl_at s 0 (w - fr) h) ≤ 8 ∨ s < 1 then ly_add (rd_choiceAt ch (pl_at s 0 (w - fr) h)) (pk_z (rd_choiceAt ch (pl_at s 0 (w - fr) h)) (x + fr) y (w - fr) h) st else lt0_go rec ch K s x y w h n (fr + (rd_choiceAt ch (pl_at s 0 (w - fr) h) - 8 + K)) (rec (x + fr) y (rd_choiceAt ch (pl_at s 0 (w - fr) h) - 8) h (ly_cut h st))) else st
def lt1_go (rec : Int → Int → Int → Int → ly_T → ly_T) (ch : Nat → Int) (K s x y w h : Int) : Nat → Int → ly_T → ly_T
  | 0, _, st => st
  | n + 1, fr, st => if fr < h then (if rd_choiceAt ch (pl_at s 1 w (h - fr)) ≤ 8 ∨ s < 1 then ly_add (rd_choiceAt ch (pl_at s 1 w (h - fr))) (pk_z (rd_choiceAt ch (pl_at s 1 w (h - fr))) x (y + fr) w (h - fr)) st else lt1_go rec ch K s x y w h n (fr + (rd_choiceAt ch (pl_at s 1 w (h - fr)) - 8 + K)) (rec x (y + fr) w (rd_choiceAt ch (pl_at s 1 w (h - fr)) - 8) (ly_cut w st))) else st
def lt (ch : Nat → Int) (K : Int) : Nat → Bool → Int → Int → Int → Int → ly_T → ly_T
  | 0, false, x, y, w, h, st => lt0_go (fun _ _ _ _ st => st) ch K 0 x y w h 16 0 st
  | 0, true, x, y, w, h, st => lt1_go (fun _ _ _ _ st => st) ch K 0 x y w h 16 0 st
  | s + 1, false, x, y, w, h, st => lt0_go (lt ch K s true) ch K ((s : Int) + 1) x y w h 16 0 st
  | s + 1, true, x, y, w, h, st => lt1_go (lt ch K s false) ch K ((s : Int) + 1) x y w h 16 0 st
theorem LN_go0 {rec : Int → Int → Int → Int → ly_T → ly_T} {ch : Nat → Int} {K s x y w h : Int} (hr : ∀ x y w h st, LN st → LN (rec x y w h st)) : ∀ (n : Nat) (fr : Int) (st : ly_T), LN st → LN (lt0_go rec ch K s x y w h n fr st)
  | 0, _, _, hs => hs
  | n + 1, fr, st, hs => by
    unfold lt0_go
    split
    · split
      · exact LN_add hs
      · exact LN_go0 hr n _ _ (hr _ _ _ _ _ hs)
    · exact hs
theorem LN_go1 {rec : Int → Int → Int → Int → ly_T → ly_T} {ch : Nat → Int} {K s x y w h : Int} (hr : ∀ x y w h st, LN st → LN (rec x y w h st)) : ∀ (n : Nat) (fr : Int) (st : ly_T), LN st → LN (lt1_go rec ch K s x y w h n fr st)
  | 0, _, _, hs => hs
  | n + 1, fr, st, hs => by
    unfold lt1_go
    split
    · split
      · exact LN_add hs
      · exact LN_go1 hr n _ _ (hr _ _ _ _ _ hs)
    · exact hs
theorem LN_lt {ch : Nat → Int} {K : Int} : ∀ (s : Nat) (d : Bool) (x y w h : Int) (st : ly_T), LN st → LN (lt ch K s d x y w h st)
  | 0, false, _, _, _, _, _, hs => LN_go0 (fun _ _ _ _ _ h => h) 16 0 _ hs
  | 0, true, _, _, _, _, _, hs => LN_go1 (fun _ _ _ _ _ h => h) 16 0 _ hs
  | s + 1, false, _, _, _, _, _, hs => LN_go0 (fun x y w h st hq => LN_lt s true x y w h st hq) 16 0 _ hs
  | s + 1, true, _, _, _, _, _, hs => LN_go1 (fun x y w h st hq => LN_lt s false x y w h st hq) 16 0 _ hs
def okp (x y w h : Int) : Prop := 0 ≤ x ∧ x + w ≤ 16 ∧ 0 ≤ y ∧ y + h ≤ 16 ∧ 1 ≤ w ∧ 1 ≤ h
set_option maxHeartbeats 4000000 in
set_option maxRecDepth 100000 in
theorem c_LY_layTree_0_0 (l : Launch) (D : va_G) (cI : ClassId) (a qt qp qo qs qc : Nat) (way K W F x y w h : Int) (ch : Nat → Int) (st0 : ly_T) (hK : 0 ≤ K ∧ K ≤ 3) (hC : CI ch) (hN0 : LN st0) (hok : okp x y w h) : CM l y_LY_layTree b_LY_layTree 17 none rm_2 [.ref a, .int (iI x), .int (iI y), .int (iI w), .int (iI h), .int (iI 0), .int (iI 0)] D [(cI, .int)] ([ob_LY a qt qp qo way st0, ar_I qp cI 256 st0.2.2.2.1, ar_I qo cI 8 st0.2.2.2.2, ob_TB qt qs qc K W F, ar_I qc cI 2312 ch] ++ []) (fun r w1 p1 _ => r = none ∧ w1 = [ob_LY a qt qp qo way (lt ch K 0 false x y w h st0), ar_I qp cI 256 (lt ch K 0 false x y w h st0).2.2.2.1, ar_I qo cI 8 (lt ch K 0 false x y w h st0).2.2.2.2, ob_TB qt qs qc K W F, ar_I qc cI 2312 ch] ∧ p1 = []) := by
  refine cm_of (by decide) (Nat.le_of_ble_eq_true rfl) ?_
  intro X sz hl hr hnm hD hA hw
  subst hD
  unfold okp at hok
  have loop : ∀ (n i : Nat) (fr : Int) (st : ly_T), i + n = 16 → 0 ≤ fr ∧ fr ≤ 60 → LN st → lt0_go (fun _ _ _ _ st => st) ch K 0 x y w h n fr st = (lt ch K 0 false x y w h st0) → VV X (b_LY_layTree, 17, "SheetTrees$Layout", rm_2) (cq X ([ob_LY a qt qp qo way st0, ar_I qp cI 256 st0.2.2.2.1, ar_I qo cI 8 st0.2.2.2.2, ob_TB qt qs qc K W F, ar_I qc cI 2312 ch] ++ []) sz (fun r w1 p1 _ => r = none ∧ w1 = [ob_LY a qt qp qo way (lt ch K 0 false x y w h st0), ar_I qp cI 256 (lt ch K 0 false x y w h st0).2.2.2.1, ar_I qo cI 8 (lt ch K 0 false x y w h st0).2.2.2.2, ob_TB qt qs qc K W F, ar_I qc cI 2312 ch] ∧ p1 = []) rm_2) 0 0 [(cI, .int)] [ob_LY a qt qp qo way st, ar_I qp cI 256 st.2.2.2.1, ar_I qo cI 8 st.2.2.2.2, ob_TB qt qs qc K W F, ar_I qc cI 2312 ch] [] [some (.ref a), some (.int (iI x)), some (.int (iI y)), some (.int (iI w)), some (.int (iI h)), some (.int (iI 0)), some (.int (iI 0)), some (.int (iI w)), some (.int (iI h)), some (.int (iI fr)), some (.int (iI (i : Int))), none, none, none, none, none, none] [] 32 := by
    intro n
    induction n with
    | zero =>
      intro i fr st hi hfr hN hlt
      unfold lt0_go at hlt
      refine vv_iload d_LY_layTree_32 rfl ?_
      refine vv_bipush d_LY_layTree_34 (by decide +kernel) ?_
      refine vv_icmp_ge (tgt := 250) d_LY_layTree_36 (by decide) ⟨by omega, by omega⟩ (fun c36 => ?_) (fun c36 => ?_)
      · exact vv_vret hA hw hr d_LY_layTree_250 (by decide) (by decide) ⟨rfl, by rw [← hlt], rfl⟩
      · exfalso; omega
    | succ n ih =>
      intro i fr st hi hfr hN hlt
      unfold lt0_go at hlt
      refine vv_iload d_LY_layTree_32 rfl ?_
      refine vv_bipush d_LY_layTree_34 (by decide +kernel) ?_
      refine vv_icmp_ge (tgt := 250) d_LY_layTree_36 (by decide) ⟨by omega, by omega⟩ (fun c36 => ?_) (fun c36 => ?_)
      · exfalso; omega
      · skip
        refine vv_iload d_LY_layTree_39 rfl ?_
        refine vv_iload d_LY_layTree_41 rfl ?_
        refine vv_icmp_ge (tgt := 250) d_LY_layTree_43 (by decide) ⟨by omega, by omega⟩ (fun c43 => ?_) (fun c43 => ?_)
        · rw [if_neg (by omega)] at hlt; exact vv_vret hA hw hr d_LY_layTree_250 (by decide) (by decide) ⟨rfl, by rw [← hlt], rfl⟩
        · rw [if_pos (by omega)] at hlt
          have hch := hC 0 0 (w - fr) h (by omega) (by omega) (by omega) (by omega) (by omega) (by omega) (by omega) (by omega)
          rw [← rd_plc (ch := ch) (s := 0) (d := 0) (w := (w - fr)) (h := h) (by omega) (by omega) (by omega) (by omega)] at hch
          have hch2 : (rd_choiceAt ch (pl_at 0 0 (w - fr) h)) ≤ 24 := by
            by_cases q : 8 < (rd_choiceAt ch (pl_at 0 0 (w - fr) h))
            · have q2 := (hch.2 q).2
              have q3 : (if (0 : Int) = 0 then (w - fr) else h) ≤ 16 := by split <;> omega
              omega
            · omega
          have hpl : -2147483648 ≤ pl_at 0 0 (w - fr) h ∧ pl_at 0 0 (w - fr) h < 2147483648 := by unfold pl_at; omega
          refine vv_iload d_LY_layTree_46 rfl ?_
          refine vv_if_ne (tgt := 58) d_LY_layTree_48 (by decide) ⟨by omega, by omega⟩ (fun c48 => ?_) (fun c48 => ?_)
          · exfalso; omega
          · skip
            refine vv_iload_n d_LY_layTree_51 rfl ?_
            refine vv_iload d_LY_layTree_52 rfl ?_
            refine vv_iadd d_LY_layTree_54 ?_
            refine vv_goto (tgt := 59) d_LY_layTree_55 (by decide) ?_
            refine vv_istore d_LY_layTree_59 rfl (by decide) ?_
            dsimp only [List.set]
            refine vv_iload d_LY_layTree_61 rfl ?_
            refine vv_if_ne (tgt := 70) d_LY_layTree_63 (by decide) ⟨by omega, by omega⟩ (fun c63 => ?_) (fun c63 => ?_)
            · exfalso; omega
            · skip
              refine vv_iload_n d_LY_layTree_66 rfl ?_
              refine vv_goto (tgt := 74) d_LY_layTree_67 (by decide) ?_
              refine vv_istore d_LY_layTree_74 rfl (by decide) ?_
              dsimp only [List.set]
              refine vv_iload d_LY_layTree_76 rfl ?_
              refine vv_if_ne (tgt := 89) d_LY_layTree_78 (by decide) ⟨by omega, by omega⟩ (fun c78 => ?_) (fun c78 => ?_)
              · exfalso; omega
              · skip
                refine vv_iload d_LY_layTree_81 rfl ?_
                refine vv_iload d_LY_layTree_83 rfl ?_
                refine vv_isub d_LY_layTree_85 ?_
                refine vv_goto (tgt := 90) d_LY_layTree_86 (by decide) ?_
                refine vv_istore d_LY_layTree_90 rfl (by decide) ?_
                dsimp only [List.set]
                refine vv_iload d_LY_layTree_92 rfl ?_
                refine vv_if_ne (tgt := 102) d_LY_layTree_94 (by decide) ⟨by omega, by omega⟩ (fun c94 => ?_) (fun c94 => ?_)
                · exfalso; omega
                · skip
                  refine vv_iload d_LY_layTree_97 rfl ?_
                  refine vv_goto (tgt := 107) d_LY_layTree_99 (by decide) ?_
                  refine vv_istore d_LY_layTree_107 rfl (by decide) ?_
                  dsimp only [List.set]
                  refine vv_aload_n d_LY_layTree_109 rfl ?_
                  refine vv_get d_LY_layTree_110 0 rfl fl_LY_31 rfl ?_
                  refine vv_iload d_LY_layTree_113 rfl ?_
                  refine vv_iload d_LY_layTree_115 rfl ?_
                  refine vv_iload d_LY_layTree_117 rfl ?_
                  refine vv_iload d_LY_layTree_119 rfl ?_
                  refine vv_pV (wc := [ob_TB qt qs qc K W F, ar_I qc cI 2312 ch]) (plc := []) [] (c_TB_choiceOf (cx_l X) (cx_D X) cI qt qs qc K W F 0 0 (w - fr) h ch hpl) lk_LY_59 d_LY_layTree_121 rfl (rc_at 3 rfl rfl rfl) [3, 4] ⟨rfl, rfl, Or.inl rfl⟩ [0] rfl ⟨⟨by decide, by decide⟩, ⟨by decide, by decide⟩, Nat.le_of_ble_eq_true rfl⟩ ⟨rfl, rfl⟩ ?_
                  intro v hv
                  subst hv
                  dsimp only [Option.toList, List.cons_append, List.nil_append, List.append_nil]
                  refine vv_istore d_LY_layTree_124 rfl (by decide) ?_
                  dsimp only [List.set]
                  refine vv_iload d_LY_layTree_126 rfl ?_
                  refine vv_bipush d_LY_layTree_128 (by decide +kernel) ?_
                  refine vv_icmp_le (tgt := 139) d_LY_layTree_130 (by decide) ⟨by omega, by omega⟩ (fun c130 => ?_) (fun c130 => ?_)
                  · skip
                    refine vv_aload_n d_LY_layTree_139 rfl ?_
                    refine vv_iload d_LY_layTree_140 rfl ?_
                    refine vv_iload d_LY_layTree_142 rfl ?_
                    refine vv_iload d_LY_layTree_144 rfl ?_
                    refine vv_iload d_LY_layTree_146 rfl ?_
                    refine vv_iload d_LY_layTree_148 rfl ?_
                    refine vv_iload d_LY_layTree_150 rfl ?_
                    refine vv_pS (wc := []) (plc := []) [.int (iI (rd_choiceAt ch (pl_at 0 0 (w - fr) h))), .ref a] (c_PI_of (cx_l X) (cx_D X) (rd_choiceAt ch (pl_at 0 0 (w - fr) h)) (x + fr) y (w - fr) h (by omega) (by omega) (by omega) (by omega) (by omega)) lk_LY_62 d_LY_layTree_152 rfl [] ⟨rfl, rfl, Or.inl rfl⟩ [] rfl ⟨⟨by decide, by decide⟩, ⟨by decide, by decide⟩, Nat.le_of_ble_eq_true rfl⟩ ⟨rfl, rfl⟩ ?_
                    intro v hv
                    subst hv
                    dsimp only [Option.toList, List.cons_append, List.nil_append, List.append_nil]
                    refine vv_nV hw (wc := [ob_LY a qt qp qo way st, ar_I qp cI 256 st.2.2.2.1, ar_I qo cI 8 st.2.2.2.2]) (wr := [ob_TB qt qs qc K W F, ar_I qc cI 2312 ch]) [] (c_LY_addPiece (cx_l X) (cx_D X) cI a qt qp qo way (rd_choiceAt ch (pl_at 0 0 (w - fr) h)) (pk_z (rd_choiceAt ch (pl_at 0 0 (w - fr) h)) (x + fr) y (w - fr) h) st hN (by omega)) lk_LY_68 d_LY_layTree_155 rfl (rc_at 0 rfl rfl rfl) [0, 1, 2] [3, 4] ⟨rfl, rfl⟩ ⟨rfl, rfl, by decide⟩ [0] rfl ⟨⟨by decide, by decide⟩, ⟨by decide, by decide⟩, Nat.le_of_ble_eq_true rfl⟩ ⟨rfl, rfl⟩ ?_
                    rintro v w1 p1 t1 ⟨rfl, rfl, rfl⟩
                    dsimp only [Option.toList, List.cons_append, List.nil_append, List.append_nil]
                    refine vv_sub (ws' := [ob_LY a qt qp qo way (ly_add (rd_choiceAt ch (pl_at 0 0 (w - fr) h)) (pk_z (rd_choiceAt ch (pl_at 0 0 (w - fr) h)) (x + fr) y (w - fr) h) st), ar_I qp cI 256 (ly_add (rd_choiceAt ch (pl_at 0 0 (w - fr) h)) (pk_z (rd_choiceAt ch (pl_at 0 0 (w - fr) h)) (x + fr) y (w - fr) h) st).2.2.2.1, ar_I qo cI 8 (ly_add (rd_choiceAt ch (pl_at 0 0 (w - fr) h)) (pk_z (rd_choiceAt ch (pl_at 0 0 (w - fr) h)) (x + fr) y (w - fr) h) st).2.2.2.2, ob_TB qt qs qc K W F, ar_I qc cI 2312 ch]) [2, 3, 4, 0, 1] rfl rfl ?_
                    rw [if_pos (Or.inl c130)] at hlt
                    exact vv_vret hA hw hr d_LY_layTree_158 (by decide) (by decide) ⟨rfl, by rw [← hlt], rfl⟩
                  · exfalso; have := hch.2 (by omega); omega
  show VV X (b_LY_layTree, 17, "SheetTrees$Layout", rm_2) _ 0 0 [(cI, .int)] [ob_LY a qt qp qo way st0, ar_I qp cI 256 st0.2.2.2.1, ar_I qo cI 8 st0.2.2.2.2, ob_TB qt qs qc K W F, ar_I qc cI 2312 ch] [] [some (.ref a), some (.int (iI x)), some (.int (iI y)), some (.int (iI w)), some (.int (iI h)), some (.int (iI 0)), some (.int (iI 0)), none, none, none, none, none, none, none, none, none, none] [] 0
  refine vv_iload d_LY_layTree_0 rfl ?_
  refine vv_if_ne (tgt := 9) d_LY_layTree_2 (by decide) ⟨by omega, by omega⟩ (fun c2 => ?_) (fun c2 => ?_)
  · exfalso; omega
  · skip
    refine vv_iload_n d_LY_layTree_5 rfl ?_
    refine vv_goto (tgt := 11) d_LY_layTree_6 (by decide) ?_
    refine vv_istore d_LY_layTree_11 rfl (by decide) ?_
    dsimp only [List.set]
    refine vv_iload d_LY_layTree_13 rfl ?_
    refine vv_if_ne (tgt := 23) d_LY_layTree_15 (by decide) ⟨by omega, by omega⟩ (fun c15 => ?_) (fun c15 => ?_)
    · exfalso; omega
    · skip
      refine vv_iload d_LY_layTree_18 rfl ?_
      refine vv_goto (tgt := 24) d_LY_layTree_20 (by decide) ?_
      refine vv_istore d_LY_layTree_24 rfl (by decide) ?_
      dsimp only [List.set]
      refine vv_iconst d_LY_layTree_26 ?_
      refine vv_istore d_LY_layTree_27 rfl (by decide) ?_
      dsimp only [List.set]
      refine vv_iconst d_LY_layTree_29 ?_
      refine vv_istore d_LY_layTree_30 rfl (by decide) ?_
      dsimp only [List.set]
      exact loop 16 0 0 st0 (by omega) (by omega) hN0 rfl
set_option maxHeartbeats 4000000 in
set_option maxRecDepth 100000 in
theorem c_LY_layTree_0_1 (l : Launch) (D : va_G) (cI : ClassId) (a qt qp qo qs qc : Nat) (way K W F x y w h : Int) (ch : Nat → Int) (st0 : ly_T) (hK : 0 ≤ K ∧ K ≤ 3) (hC : CI ch) (hN0 : LN st0) (hok : okp x y w h) : CM l y_LY_layTree b_LY_layTree 17 none rm_2 [.ref a, .int (iI x), .int (iI y), .int (iI w), .int (iI h), .int (iI 1), .int (iI 0)] D [(cI, .int)] ([ob_LY a qt qp qo way st0, ar_I qp cI 256 st0.2.2.2.1, ar_I qo cI 8 st0.2.2.2.2, ob_TB qt qs qc K W F, ar_I qc cI 2312 ch] ++ []) (fun r w1 p1 _ => r = none ∧ w1 = [ob_LY a qt qp qo way (lt ch K 0 true x y w h st0), ar_I qp cI 256 (lt ch K 0 true x y w h st0).2.2.2.1, ar_I qo cI 8 (lt ch K 0 true x y w h st0).2.2.2.2, ob_TB qt qs qc K W F, ar_I qc cI 2312 ch] ∧ p1 = []) := by
  refine cm_of (by decide) (Nat.le_of_ble_eq_true rfl) ?_
  intro X sz hl hr hnm hD hA hw
  subst hD
  unfold okp at hok
  have loop : ∀ (n i : Nat) (fr : Int) (st : ly_T), i + n = 16 → 0 ≤ fr ∧ fr ≤ 60 → LN st → lt1_go (fun _ _ _ _ st => st) ch K 0 x y w h n fr st = (lt ch K 0 true x y w h st0) → VV X (b_LY_layTree, 17, "SheetTrees$Layout", rm_2) (cq X ([ob_LY a qt qp qo way st0, ar_I qp cI 256 st0.2.2.2.1, ar_I qo cI 8 st0.2.2.2.2, ob_TB qt qs qc K W F, ar_I qc cI 2312 ch] ++ []) sz (fun r w1 p1 _ => r = none ∧ w1 = [ob_LY a qt qp qo way (lt ch K 0 true x y w h st0), ar_I qp cI 256 (lt ch K 0 true x y w h st0).2.2.2.1, ar_I qo cI 8 (lt ch K 0 true x y w h st0).2.2.2.2, ob_TB qt qs qc K W F, ar_I qc cI 2312 ch] ∧ p1 = []) rm_2) 0 0 [(cI, .int)] [ob_LY a qt qp qo way st, ar_I qp cI 256 st.2.2.2.1, ar_I qo cI 8 st.2.2.2.2, ob_TB qt qs qc K W F, ar_I qc cI 2312 ch] [] [some (.ref a), some (.int (iI x)), some (.int (iI y)), some (.int (iI w)), some (.int (iI h)), some (.int (iI 1)), some (.int (iI 0)), some (.int (iI h)), some (.int (iI w)), some (.int (iI fr)), some (.int (iI (i : Int))), none, none, none, none, none, none] [] 32 := by
    intro n
    induction n with
    | zero =>
      intro i fr st hi hfr hN hlt
      unfold lt1_go at hlt
      refine vv_iload d_LY_layTree_32 rfl ?_
      refine vv_bipush d_LY_layTree_34 (by decide +kernel) ?_
      refine vv_icmp_ge (tgt := 250) d_LY_layTree_36 (by decide) ⟨by omega, by omega⟩ (fun c36 => ?_) (fun c36 => ?_)
      · exact vv_vret hA hw hr d_LY_layTree_250 (by decide) (by decide) ⟨rfl, by rw [← hlt], rfl⟩
      · exfalso; omega
    | succ n ih =>
      intro i fr st hi hfr hN hlt
      unfold lt1_go at hlt
      refine vv_iload d_LY_layTree_32 rfl ?_
      refine vv_bipush d_LY_layTree_34 (by decide +kernel) ?_
      refine vv_icmp_ge (tgt := 250) d_LY_layTree_36 (by decide) ⟨by omega, by omega⟩ (fun c36 => ?_) (fun c36 => ?_)
      · exfalso; omega
      · skip
        refine vv_iload d_LY_layTree_39 rfl ?_
        refine vv_iload d_LY_layTree_41 rfl ?_
        refine vv_icmp_ge (tgt := 250) d_LY_layTree_43 (by decide) ⟨by omega, by omega⟩ (fun c43 => ?_) (fun c43 => ?_)
        · rw [if_neg (by omega)] at hlt; exact vv_vret hA hw hr d_LY_layTree_250 (by decide) (by decide) ⟨rfl, by rw [← hlt], rfl⟩
        · rw [if_pos (by omega)] at hlt
          have hch := hC 0 1 w (h - fr) (by omega) (by omega) (by omega) (by omega) (by omega) (by omega) (by omega) (by omega)
          rw [← rd_plc (ch := ch) (s := 0) (d := 1) (w := w) (h := (h - fr)) (by omega) (by omega) (by omega) (by omega)] at hch
          have hch2 : (rd_choiceAt ch (pl_at 0 1 w (h - fr))) ≤ 24 := by
            by_cases q : 8 < (rd_choiceAt ch (pl_at 0 1 w (h - fr)))
            · have q2 := (hch.2 q).2
              have q3 : (if (1 : Int) = 0 then w else (h - fr)) ≤ 16 := by split <;> omega
              omega
            · omega
          have hpl : -2147483648 ≤ pl_at 0 1 w (h - fr) ∧ pl_at 0 1 w (h - fr) < 2147483648 := by unfold pl_at; omega
          refine vv_iload d_LY_layTree_46 rfl ?_
          refine vv_if_ne (tgt := 58) d_LY_layTree_48 (by decide) ⟨by omega, by omega⟩ (fun c48 => ?_) (fun c48 => ?_)
          · skip
            refine vv_iload_n d_LY_layTree_58 rfl ?_
            refine vv_istore d_LY_layTree_59 rfl (by decide) ?_
            dsimp only [List.set]
            refine vv_iload d_LY_layTree_61 rfl ?_
            refine vv_if_ne (tgt := 70) d_LY_layTree_63 (by decide) ⟨by omega, by omega⟩ (fun c63 => ?_) (fun c63 => ?_)
            · skip
              refine vv_iload_n d_LY_layTree_70 rfl ?_
              refine vv_iload d_LY_layTree_71 rfl ?_
              refine vv_iadd d_LY_layTree_73 ?_
              refine vv_istore d_LY_layTree_74 rfl (by decide) ?_
              dsimp only [List.set]
              refine vv_iload d_LY_layTree_76 rfl ?_
              refine vv_if_ne (tgt := 89) d_LY_layTree_78 (by decide) ⟨by omega, by omega⟩ (fun c78 => ?_) (fun c78 => ?_)
              · skip
                refine vv_iload_n d_LY_layTree_89 rfl ?_
                refine vv_istore d_LY_layTree_90 rfl (by decide) ?_
                dsimp only [List.set]
                refine vv_iload d_LY_layTree_92 rfl ?_
                refine vv_if_ne (tgt := 102) d_LY_layTree_94 (by decide) ⟨by omega, by omega⟩ (fun c94 => ?_) (fun c94 => ?_)
                · skip
                  refine vv_iload d_LY_layTree_102 rfl ?_
                  refine vv_iload d_LY_layTree_104 rfl ?_
                  refine vv_isub d_LY_layTree_106 ?_
                  refine vv_istore d_LY_layTree_107 rfl (by decide) ?_
                  dsimp only [List.set]
                  refine vv_aload_n d_LY_layTree_109 rfl ?_
                  refine vv_get d_LY_layTree_110 0 rfl fl_LY_31 rfl ?_
                  refine vv_iload d_LY_layTree_113 rfl ?_
                  refine vv_iload d_LY_layTree_115 rfl ?_
                  refine vv_iload d_LY_layTree_117 rfl ?_
                  refine vv_iload d_LY_layTree_119 rfl ?_
                  refine vv_pV (wc := [ob_TB qt qs qc K W F, ar_I qc cI 2312 ch]) (plc := []) [] (c_TB_choiceOf (cx_l X) (cx_D X) cI qt qs qc K W F 0 1 w (h - fr) ch hpl) lk_LY_59 d_LY_layTree_121 rfl (rc_at 3 rfl rfl rfl) [3, 4] ⟨rfl, rfl, Or.inl rfl⟩ [0] rfl ⟨⟨by decide, by decide⟩, ⟨by decide, by decide⟩, Nat.le_of_ble_eq_true rfl⟩ ⟨rfl, rfl⟩ ?_
                  intro v hv
                  subst hv
                  dsimp only [Option.toList, List.cons_append, List.nil_append, List.append_nil]
                  refine vv_istore d_LY_layTree_124 rfl (by decide) ?_
                  dsimp only [List.set]
                  refine vv_iload d_LY_layTree_126 rfl ?_
                  refine vv_bipush d_LY_layTree_128 (by decide +kernel) ?_
                  refine vv_icmp_le (tgt := 139) d_LY_layTree_130 (by decide) ⟨by omega, by omega⟩ (fun c130 => ?_) (fun c130 => ?_)
                  · skip
                    refine vv_aload_n d_LY_layTree_139 rfl ?_
                    refine vv_iload d_LY_layTree_140 rfl ?_
                    refine vv_iload d_LY_layTree_142 rfl ?_
                    refine vv_iload d_LY_layTree_144 rfl ?_
                    refine vv_iload d_LY_layTree_146 rfl ?_
                    refine vv_iload d_LY_layTree_148 rfl ?_
                    refine vv_iload d_LY_layTree_150 rfl ?_
                    refine vv_pS (wc := []) (plc := []) [.int (iI (rd_choiceAt ch (pl_at 0 1 w (h - fr)))), .ref a] (c_PI_of (cx_l X) (cx_D X) (rd_choiceAt ch (pl_at 0 1 w (h - fr))) x (y + fr) w (h - fr) (by omega) (by omega) (by omega) (by omega) (by omega)) lk_LY_62 d_LY_layTree_152 rfl [] ⟨rfl, rfl, Or.inl rfl⟩ [] rfl ⟨⟨by decide, by decide⟩, ⟨by decide, by decide⟩, Nat.le_of_ble_eq_true rfl⟩ ⟨rfl, rfl⟩ ?_
                    intro v hv
                    subst hv
                    dsimp only [Option.toList, List.cons_append, List.nil_append, List.append_nil]
                    refine vv_nV hw (wc := [ob_LY a qt qp qo way st, ar_I qp cI 256 st.2.2.2.1, ar_I qo cI 8 st.2.2.2.2]) (wr := [ob_TB qt qs qc K W F, ar_I qc cI 2312 ch]) [] (c_LY_addPiece (cx_l X) (cx_D X) cI a qt qp qo way (rd_choiceAt ch (pl_at 0 1 w (h - fr))) (pk_z (rd_choiceAt ch (pl_at 0 1 w (h - fr))) x (y + fr) w (h - fr)) st hN (by omega)) lk_LY_68 d_LY_layTree_155 rfl (rc_at 0 rfl rfl rfl) [0, 1, 2] [3, 4] ⟨rfl, rfl⟩ ⟨rfl, rfl, by decide⟩ [0] rfl ⟨⟨by decide, by decide⟩, ⟨by decide, by decide⟩, Nat.le_of_ble_eq_true rfl⟩ ⟨rfl, rfl⟩ ?_
                    rintro v w1 p1 t1 ⟨rfl, rfl, rfl⟩
                    dsimp only [Option.toList, List.cons_append, List.nil_append, List.append_nil]
                    refine vv_sub (ws' := [ob_LY a qt qp qo way (ly_add (rd_choiceAt ch (pl_at 0 1 w (h - fr))) (pk_z (rd_choiceAt ch (pl_at 0 1 w (h - fr))) x (y + fr) w (h - fr)) st), ar_I qp cI 256 (ly_add (rd_choiceAt ch (pl_at 0 1 w (h - fr))) (pk_z (rd_choiceAt ch (pl_at 0 1 w (h - fr))) x (y + fr) w (h - fr)) st).2.2.2.1, ar_I qo cI 8 (ly_add (rd_choiceAt ch (pl_at 0 1 w (h - fr))) (pk_z (rd_choiceAt ch (pl_at 0 1 w (h - fr))) x (y + fr) w (h - fr)) st).2.2.2.2, ob_TB qt qs qc K W F, ar_I qc cI 2312 ch]) [2, 3, 4, 0, 1] rfl rfl ?_
                    rw [if_pos (Or.inl c130)] at hlt
                    exact vv_vret hA hw hr d_LY_layTree_158 (by decide) (by decide) ⟨rfl, by rw [← hlt], rfl⟩
                  · exfalso; have := hch.2 (by omega); omega
                · exfalso; omega
              · exfalso; omega
            · exfalso; omega
          · exfalso; omega
  show VV X (b_LY_layTree, 17, "SheetTrees$Layout", rm_2) _ 0 0 [(cI, .int)] [ob_LY a qt qp qo way st0, ar_I qp cI 256 st0.2.2.2.1, ar_I qo cI 8 st0.2.2.2.2, ob_TB qt qs qc K W F, ar_I qc cI 2312 ch] [] [some (.ref a), some (.int (iI x)), some (.int (iI y)), some (.int (iI w)), some (.int (iI h)), some (.int (iI 1)), some (.int (iI 0)), none, none, none, none, none, none, none, none, none, none] [] 0
  refine vv_iload d_LY_layTree_0 rfl ?_
  refine vv_if_ne (tgt := 9) d_LY_layTree_2 (by decide) ⟨by omega, by omega⟩ (fun c2 => ?_) (fun c2 => ?_)
  · skip
    refine vv_iload d_LY_layTree_9 rfl ?_
    refine vv_istore d_LY_layTree_11 rfl (by decide) ?_
    dsimp only [List.set]
    refine vv_iload d_LY_layTree_13 rfl ?_
    refine vv_if_ne (tgt := 23) d_LY_layTree_15 (by decide) ⟨by omega, by omega⟩ (fun c15 => ?_) (fun c15 => ?_)
    · skip
      refine vv_iload_n d_LY_layTree_23 rfl ?_
      refine vv_istore d_LY_layTree_24 rfl (by decide) ?_
      dsimp only [List.set]
      refine vv_iconst d_LY_layTree_26 ?_
      refine vv_istore d_LY_layTree_27 rfl (by decide) ?_
      dsimp only [List.set]
      refine vv_iconst d_LY_layTree_29 ?_
      refine vv_istore d_LY_layTree_30 rfl (by decide) ?_
      dsimp only [List.set]
      exact loop 16 0 0 st0 (by omega) (by omega) hN0 rfl
    · exfalso; omega
  · exfalso; omega
set_option maxHeartbeats 4000000 in
set_option maxRecDepth 100000 in
theorem c_LY_layTree_1_0 (l : Launch) (D : va_G) (cI : ClassId) (a qt qp qo qs qc : Nat) (way K W F x y w h : Int) (ch : Nat → Int) (st0 : ly_T) (hK : 0 ≤ K ∧ K ≤ 3) (hC : CI ch) (hN0 : LN st0) (hok : okp x y w h) : CM l y_LY_layTree b_LY_layTree 17 none rm_3 [.ref a, .int (iI x), .int (iI y), .int (iI w), .int (iI h), .int (iI 0), .int (iI 1)] D [(cI, .int)] ([ob_LY a qt qp qo way st0, ar_I qp cI 256 st0.2.2.2.1, ar_I qo cI 8 st0.2.2.2.2, ob_TB qt qs qc K W F, ar_I qc cI 2312 ch] ++ []) (fun r w1 p1 _ => r = none ∧ w1 = [ob_LY a qt qp qo way (lt ch K 1 false x y w h st0), ar_I qp cI 256 (lt ch K 1 false x y w h st0).2.2.2.1, ar_I qo cI 8 (lt ch K 1 false x y w h st0).2.2.2.2, ob_TB qt qs qc K W F, ar_I qc cI 2312 ch] ∧ p1 = []) := by
  refine cm_of (by decide) (Nat.le_of_ble_eq_true rfl) ?_
  intro X sz hl hr hnm hD hA hw
  subst hD
  unfold okp at hok
  have loop : ∀ (n i : Nat) (fr : Int) (st : ly_T), i + n = 16 → 0 ≤ fr ∧ fr ≤ 60 → LN st → lt0_go (lt ch K 0 true) ch K 1 x y w h n fr st = (lt ch K 1 false x y w h st0) → VV X (b_LY_layTree, 17, "SheetTrees$Layout", rm_3) (cq X ([ob_LY a qt qp qo way st0, ar_I qp cI 256 st0.2.2.2.1, ar_I qo cI 8 st0.2.2.2.2, ob_TB qt qs qc K W F, ar_I qc cI 2312 ch] ++ []) sz (fun r w1 p1 _ => r = none ∧ w1 = [ob_LY a qt qp qo way (lt ch K 1 false x y w h st0), ar_I qp cI 256 (lt ch K 1 false x y w h st0).2.2.2.1, ar_I qo cI 8 (lt ch K 1 false x y w h st0).2.2.2.2, ob_TB qt qs qc K W F, ar_I qc cI 2312 ch] ∧ p1 = []) rm_3) 0 0 [(cI, .int)] [ob_LY a qt qp qo way st, ar_I qp cI 256 st.2.2.2.1, ar_I qo cI 8 st.2.2.2.2, ob_TB qt qs qc K W F, ar_I qc cI 2312 ch] [] [some (.ref a), some (.int (iI x)), some (.int (iI y)), some (.int (iI w)), some (.int (iI h)), some (.int (iI 0)), some (.int (iI 1)), some (.int (iI w)), some (.int (iI h)), some (.int (iI fr)), some (.int (iI (i : Int))), none, none, none, none, none, none] [] 32 := by
    intro n
    induction n with
    | zero =>
      intro i fr st hi hfr hN hlt
      unfold lt0_go at hlt
      refine vv_iload d_LY_layTree_32 rfl ?_
      refine vv_bipush d_LY_layTree_34 (by decide +kernel) ?_
      refine vv_icmp_ge (tgt := 250) d_LY_layTree_36 (by decide) ⟨by omega, by omega⟩ (fun c36 => ?_) (fun c36 => ?_)
      · exact vv_vret hA hw hr d_LY_layTree_250 (by decide) (by decide) ⟨rfl, by rw [← hlt], rfl⟩
      · exfalso; omega
    | succ n ih =>
      intro i fr st hi hfr hN hlt
      unfold lt0_go at hlt
      refine vv_iload d_LY_layTree_32 rfl ?_
      refine vv_bipush d_LY_layTree_34 (by decide +kernel) ?_
      refine vv_icmp_ge (tgt := 250) d_LY_layTree_36 (by decide) ⟨by omega, by omega⟩ (fun c36 => ?_) (fun c36 => ?_)
      · exfalso; omega
      · skip
        refine vv_iload d_LY_layTree_39 rfl ?_
        refine vv_iload d_LY_layTree_41 rfl ?_
        refine vv_icmp_ge (tgt := 250) d_LY_layTree_43 (by decide) ⟨by omega, by omega⟩ (fun c43 => ?_) (fun c43 => ?_)
        · rw [if_neg (by omega)] at hlt; exact vv_vret hA hw hr d_LY_layTree_250 (by decide) (by decide) ⟨rfl, by rw [← hlt], rfl⟩
        · rw [if_pos (by omega)] at hlt
          have hch := hC 1 0 (w - fr) h (by omega) (by omega) (by omega) (by omega) (by omega) (by omega) (by omega) (by omega)
          rw [← rd_plc (ch := ch) (s := 1) (d := 0) (w := (w - fr)) (h := h) (by omega) (by omega) (by omega) (by omega)] at hch
          have hch2 : (rd_choiceAt ch (pl_at 1 0 (w - fr) h)) ≤ 24 := by
            by_cases q : 8 < (rd_choiceAt ch (pl_at 1 0 (w - fr) h))
            · have q2 := (hch.2 q).2
              have q3 : (if (0 : Int) = 0 then (w - fr) else h) ≤ 16 := by split <;> omega
              omega
            · omega
          have hpl : -2147483648 ≤ pl_at 1 0 (w - fr) h ∧ pl_at 1 0 (w - fr) h < 2147483648 := by unfold pl_at; omega
          refine vv_iload d_LY_layTree_46 rfl ?_
          refine vv_if_ne (tgt := 58) d_LY_layTree_48 (by decide) ⟨by omega, by omega⟩ (fun c48 => ?_) (fun c48 => ?_)
          · exfalso; omega
          · skip
            refine vv_iload_n d_LY_layTree_51 rfl ?_
            refine vv_iload d_LY_layTree_52 rfl ?_
            refine vv_iadd d_LY_layTree_54 ?_
            refine vv_goto (tgt := 59) d_LY_layTree_55 (by decide) ?_
            refine vv_istore d_LY_layTree_59 rfl (by decide) ?_
            dsimp only [List.set]
            refine vv_iload d_LY_layTree_61 rfl ?_
            refine vv_if_ne (tgt := 70) d_LY_layTree_63 (by decide) ⟨by omega, by omega⟩ (fun c63 => ?_) (fun c63 => ?_)
            · exfalso; omega
            · skip
              refine vv_iload_n d_LY_layTree_66 rfl ?_
              refine vv_goto (tgt := 74) d_LY_layTree_67 (by decide) ?_
              refine vv_istore d_LY_layTree_74 rfl (by decide) ?_
              dsimp only [List.set]
              refine vv_iload d_LY_layTree_76 rfl ?_
              refine vv_if_ne (tgt := 89) d_LY_layTree_78 (by decide) ⟨by omega, by omega⟩ (fun c78 => ?_) (fun c78 => ?_)
              · exfalso; omega
              · skip
                refine vv_iload d_LY_layTree_81 rfl ?_
                refine vv_iload d_LY_layTree_83 rfl ?_
                refine vv_isub d_LY_layTree_85 ?_
                refine vv_goto (tgt := 90) d_LY_layTree_86 (by decide) ?_
                refine vv_istore d_LY_layTree_90 rfl (by decide) ?_
                dsimp only [List.set]
                refine vv_iload d_LY_layTree_92 rfl ?_
                refine vv_if_ne (tgt := 102) d_LY_layTree_94 (by decide) ⟨by omega, by omega⟩ (fun c94 => ?_) (fun c94 => ?_)
                · exfalso; omega
                · skip
                  refine vv_iload d_LY_layTree_97 rfl ?_
                  refine vv_goto (tgt := 107) d_LY_layTree_99 (by decide) ?_
                  refine vv_istore d_LY_layTree_107 rfl (by decide) ?_
                  dsimp only [List.set]
                  refine vv_aload_n d_LY_layTree_109 rfl ?_
                  refine vv_get d_LY_layTree_110 0 rfl fl_LY_31 rfl ?_
                  refine vv_iload d_LY_layTree_113 rfl ?_
                  refine vv_iload d_LY_layTree_115 rfl ?_
                  refine vv_iload d_LY_layTree_117 rfl ?_
                  refine vv_iload d_LY_layTree_119 rfl ?_
                  refine vv_pV (wc := [ob_TB qt qs qc K W F, ar_I qc cI 2312 ch]) (plc := []) [] (c_TB_choiceOf (cx_l X) (cx_D X) cI qt qs qc K W F 1 0 (w - fr) h ch hpl) lk_LY_59 d_LY_layTree_121 rfl (rc_at 3 rfl rfl rfl) [3, 4] ⟨rfl, rfl, Or.inl rfl⟩ [0] rfl ⟨⟨by decide, by decide⟩, ⟨by decide, by decide⟩, Nat.le_of_ble_eq_true rfl⟩ ⟨rfl, rfl⟩ ?_
                  intro v hv
                  subst hv
                  dsimp only [Option.toList, List.cons_append, List.nil_append, List.append_nil]
                  refine vv_istore d_LY_layTree_124 rfl (by decide) ?_
                  dsimp only [List.set]
                  refine vv_iload d_LY_layTree_126 rfl ?_
                  refine vv_bipush d_LY_layTree_128 (by decide +kernel) ?_
                  refine vv_icmp_le (tgt := 139) d_LY_layTree_130 (by decide) ⟨by omega, by omega⟩ (fun c130 => ?_) (fun c130 => ?_)
                  · skip
                    refine vv_aload_n d_LY_layTree_139 rfl ?_
                    refine vv_iload d_LY_layTree_140 rfl ?_
                    refine vv_iload d_LY_layTree_142 rfl ?_
                    refine vv_iload d_LY_layTree_144 rfl ?_
                    refine vv_iload d_LY_layTree_146 rfl ?_
                    refine vv_iload d_LY_layTree_148 rfl ?_
                    refine vv_iload d_LY_layTree_150 rfl ?_
                    refine vv_pS (wc := []) (plc := []) [.int (iI (rd_choiceAt ch (pl_at 1 0 (w - fr) h))), .ref a] (c_PI_of (cx_l X) (cx_D X) (rd_choiceAt ch (pl_at 1 0 (w - fr) h)) (x + fr) y (w - fr) h (by omega) (by omega) (by omega) (by omega) (by omega)) lk_LY_62 d_LY_layTree_152 rfl [] ⟨rfl, rfl, Or.inl rfl⟩ [] rfl ⟨⟨by decide, by decide⟩, ⟨by decide, by decide⟩, Nat.le_of_ble_eq_true rfl⟩ ⟨rfl, rfl⟩ ?_
                    intro v hv
                    subst hv
                    dsimp only [Option.toList, List.cons_append, List.nil_append, List.append_nil]
                    refine vv_nV hw (wc := [ob_LY a qt qp qo way st, ar_I qp cI 256 st.2.2.2.1, ar_I qo cI 8 st.2.2.2.2]) (wr := [ob_TB qt qs qc K W F, ar_I qc cI 2312 ch]) [] (c_LY_addPiece (cx_l X) (cx_D X) cI a qt qp qo way (rd_choiceAt ch (pl_at 1 0 (w - fr) h)) (pk_z (rd_choiceAt ch (pl_at 1 0 (w - fr) h)) (x + fr) y (w - fr) h) st hN (by omega)) lk_LY_68 d_LY_layTree_155 rfl (rc_at 0 rfl rfl rfl) [0, 1, 2] [3, 4] ⟨rfl, rfl⟩ ⟨rfl, rfl, by decide⟩ [0] rfl ⟨⟨by decide, by decide⟩, ⟨by decide, by decide⟩, Nat.le_of_ble_eq_true rfl⟩ ⟨rfl, rfl⟩ ?_
                    rintro v w1 p1 t1 ⟨rfl, rfl, rfl⟩
                    dsimp only [Option.toList, List.cons_append, List.nil_append, List.append_nil]
                    refine vv_sub (ws' := [ob_LY a qt qp qo way (ly_add (rd_choiceAt ch (pl_at 1 0 (w - fr) h)) (pk_z (rd_choiceAt ch (pl_at 1 0 (w - fr) h)) (x + fr) y (w - fr) h) st), ar_I qp cI 256 (ly_add (rd_choiceAt ch (pl_at 1 0 (w - fr) h)) (pk_z (rd_choiceAt ch (pl_at 1 0 (w - fr) h)) (x + fr) y (w - fr) h) st).2.2.2.1, ar_I qo cI 8 (ly_add (rd_choiceAt ch (pl_at 1 0 (w - fr) h)) (pk_z (rd_choiceAt ch (pl_at 1 0 (w - fr) h)) (x + fr) y (w - fr) h) st).2.2.2.2, ob_TB qt qs qc K W F, ar_I qc cI 2312 ch]) [2, 3, 4, 0, 1] rfl rfl ?_
                    rw [if_pos (Or.inl c130)] at hlt
                    exact vv_vret hA hw hr d_LY_layTree_158 (by decide) (by decide) ⟨rfl, by rw [← hlt], rfl⟩
                  · skip
                    refine vv_iload d_LY_layTree_133 rfl ?_
                    refine vv_iconst d_LY_layTree_135 ?_
                    refine vv_icmp_ge (tgt := 159) d_LY_layTree_136 (by decide) ⟨by omega, by omega⟩ (fun c136 => ?_) (fun c136 => ?_)
                    · rw [if_neg (by omega)] at hlt
                      have hch3 := hch.2 (by omega)
                      rw [if_pos rfl] at hch3
                      refine vv_iload d_LY_layTree_159 rfl ?_
                      refine vv_bipush d_LY_layTree_161 (by decide +kernel) ?_
                      refine vv_isub d_LY_layTree_163 ?_
                      refine vv_istore d_LY_layTree_164 rfl (by decide) ?_
                      dsimp only [List.set]
                      refine vv_aload_n d_LY_layTree_166 rfl ?_
                      refine vv_dup d_LY_layTree_167 rfl ?_
                      refine vv_get d_LY_layTree_168 0 rfl fl_LY_25 rfl ?_
                      refine vv_iconst d_LY_layTree_171 ?_
                      refine vv_iadd d_LY_layTree_172 ?_
                      refine vv_put hw d_LY_layTree_173 0 rfl fp_LY_25 rfl rfl (Nat.le_of_ble_eq_true rfl) ?_
                      dsimp only [List.set]
                      refine vv_aload_n d_LY_layTree_176 rfl ?_
                      refine vv_dup d_LY_layTree_177 rfl ?_
                      refine vv_get d_LY_layTree_178 0 rfl fl_LY_28 rfl ?_
                      refine vv_iload d_LY_layTree_181 rfl ?_
                      refine vv_iadd d_LY_layTree_183 ?_
                      refine vv_put hw d_LY_layTree_184 0 rfl fp_LY_28 rfl rfl (Nat.le_of_ble_eq_true rfl) ?_
                      dsimp only [List.set]
                      refine vv_iload d_LY_layTree_187 rfl ?_
                      refine vv_if_ne (tgt := 212) d_LY_layTree_189 (by decide) ⟨by omega, by omega⟩ (fun c189 => ?_) (fun c189 => ?_)
                      · exfalso; omega
                      · skip
                        refine vv_aload_n d_LY_layTree_192 rfl ?_
                        refine vv_iload d_LY_layTree_193 rfl ?_
                        refine vv_iload d_LY_layTree_195 rfl ?_
                        refine vv_iload d_LY_layTree_197 rfl ?_
                        refine vv_iload d_LY_layTree_199 rfl ?_
                        refine vv_iconst d_LY_layTree_201 ?_
                        refine vv_iload d_LY_layTree_202 rfl ?_
                        refine vv_iconst d_LY_layTree_204 ?_
                        refine vv_isub d_LY_layTree_205 ?_
                        refine vv_nV hw (wc := [ob_LY a qt qp qo way (ly_cut h st), ar_I qp cI 256 (ly_cut h st).2.2.2.1, ar_I qo cI 8 (ly_cut h st).2.2.2.2, ob_TB qt qs qc K W F, ar_I qc cI 2312 ch]) (wr := []) [] (c_LY_layTree_0_1 (cx_l X) (cx_D X) cI a qt qp qo qs qc way K W F (x + fr) y ((rd_choiceAt ch (pl_at 1 0 (w - fr) h)) - 8) h ch (ly_cut h st) hK hC hN (by unfold okp; omega)) lk_LY_55 d_LY_layTree_206 rfl (rc_at 0 rfl rfl rfl) [0, 1, 2, 3, 4] [] ⟨rfl, rfl⟩ ⟨rfl, rfl, by decide⟩ [0] rfl ⟨⟨by decide, by decide⟩, ⟨by decide, by decide⟩, Nat.le_of_ble_eq_true rfl⟩ ⟨rfl, rfl⟩ ?_
                        rintro v w1 p1 t1 ⟨rfl, rfl, rfl⟩
                        dsimp only [Option.toList, List.cons_append, List.nil_append, List.append_nil]
                        refine vv_goto (tgt := 229) d_LY_layTree_209 (by decide) ?_
                        refine vv_iload d_LY_layTree_229 rfl ?_
                        refine vv_iload d_LY_layTree_231 rfl ?_
                        refine vv_aload_n d_LY_layTree_233 rfl ?_
                        refine vv_get d_LY_layTree_234 0 rfl fl_LY_31 rfl ?_
                        refine vv_get d_LY_layTree_237 3 rfl fl_LY_72 rfl ?_
                        refine vv_iadd d_LY_layTree_240 ?_
                        refine vv_iadd d_LY_layTree_241 ?_
                        refine vv_istore d_LY_layTree_242 rfl (by decide) ?_
                        dsimp only [List.set]
                        refine vv_iinc d_LY_layTree_244 rfl rfl (by decide) ?_
                        dsimp only [List.set]
                        refine vv_goto (tgt := 32) d_LY_layTree_247 (by decide) ?_
                        exact vv_le (by repeat (first | exact lo_le_nil _ | refine lo_le_cons _ ?_ | refine lo_le_none _ ?_)) (ih (i + 1) _ _ (by omega) (by omega) (LN_lt _ _ _ _ _ _ _ hN) hlt)
                    · exfalso; omega
  show VV X (b_LY_layTree, 17, "SheetTrees$Layout", rm_3) _ 0 0 [(cI, .int)] [ob_LY a qt qp qo way st0, ar_I qp cI 256 st0.2.2.2.1, ar_I qo cI 8 st0.2.2.2.2, ob_TB qt qs qc K W F, ar_I qc cI 2312 ch] [] [some (.ref a), some (.int (iI x)), some (.int (iI y)), some (.int (iI w)), some (.int (iI h)), some (.int (iI 0)), some (.int (iI 1)), none, none, none, none, none, none, none, none, none, none] [] 0
  refine vv_iload d_LY_layTree_0 rfl ?_
  refine vv_if_ne (tgt := 9) d_LY_layTree_2 (by decide) ⟨by omega, by omega⟩ (fun c2 => ?_) (fun c2 => ?_)
  · exfalso; omega
  · skip
    refine vv_iload_n d_LY_layTree_5 rfl ?_
    refine vv_goto (tgt := 11) d_LY_layTree_6 (by decide) ?_
    refine vv_istore d_LY_layTree_11 rfl (by decide) ?_
    dsimp only [List.set]
    refine vv_iload d_LY_layTree_13 rfl ?_
    refine vv_if_ne (tgt := 23) d_LY_layTree_15 (by decide) ⟨by omega, by omega⟩ (fun c15 => ?_) (fun c15 => ?_)
    · exfalso; omega
    · skip
      refine vv_iload d_LY_layTree_18 rfl ?_
      refine vv_goto (tgt := 24) d_LY_layTree_20 (by decide) ?_
      refine vv_istore d_LY_layTree_24 rfl (by decide) ?_
      dsimp only [List.set]
      refine vv_iconst d_LY_layTree_26 ?_
      refine vv_istore d_LY_layTree_27 rfl (by decide) ?_
      dsimp only [List.set]
      refine vv_iconst d_LY_layTree_29 ?_
      refine vv_istore d_LY_layTree_30 rfl (by decide) ?_
      dsimp only [List.set]
      exact loop 16 0 0 st0 (by omega) (by omega) hN0 rfl
set_option maxHeartbeats 4000000 in
set_option maxRecDepth 100000 in
theorem c_LY_layTree_1_1 (l : Launch) (D : va_G) (cI : ClassId) (a qt qp qo qs qc : Nat) (way K W F x y w h : Int) (ch : Nat → Int) (st0 : ly_T) (hK : 0 ≤ K ∧ K ≤ 3) (hC : CI ch) (hN0 : LN st0) (hok : okp x y w h) : CM l y_LY_layTree b_LY_layTree 17 none rm_3 [.ref a, .int (iI x), .int (iI y), .int (iI w), .int (iI h), .int (iI 1), .int (iI 1)] D [(cI, .int)] ([ob_LY a qt qp qo way st0, ar_I qp cI 256 st0.2.2.2.1, ar_I qo cI 8 st0.2.2.2.2, ob_TB qt qs qc K W F, ar_I qc cI 2312 ch] ++ []) (fun r w1 p1 _ => r = none ∧ w1 = [ob_LY a qt qp qo way (lt ch K 1 true x y w h st0), ar_I qp cI 256 (lt ch K 1 true x y w h st0).2.2.2.1, ar_I qo cI 8 (lt ch K 1 true x y w h st0).2.2.2.2, ob_TB qt qs qc K W F, ar_I qc cI 2312 ch] ∧ p1 = []) := by
  refine cm_of (by decide) (Nat.le_of_ble_eq_true rfl) ?_
  intro X sz hl hr hnm hD hA hw
  subst hD
  unfold okp at hok
  have loop : ∀ (n i : Nat) (fr : Int) (st : ly_T), i + n = 16 → 0 ≤ fr ∧ fr ≤ 60 → LN st → lt1_go (lt ch K 0 false) ch K 1 x y w h n fr st = (lt ch K 1 true x y w h st0) → VV X (b_LY_layTree, 17, "SheetTrees$Layout", rm_3) (cq X ([ob_LY a qt qp qo way st0, ar_I qp cI 256 st0.2.2.2.1, ar_I qo cI 8 st0.2.2.2.2, ob_TB qt qs qc K W F, ar_I qc cI 2312 ch] ++ []) sz (fun r w1 p1 _ => r = none ∧ w1 = [ob_LY a qt qp qo way (lt ch K 1 true x y w h st0), ar_I qp cI 256 (lt ch K 1 true x y w h st0).2.2.2.1, ar_I qo cI 8 (lt ch K 1 true x y w h st0).2.2.2.2, ob_TB qt qs qc K W F, ar_I qc cI 2312 ch] ∧ p1 = []) rm_3) 0 0 [(cI, .int)] [ob_LY a qt qp qo way st, ar_I qp cI 256 st.2.2.2.1, ar_I qo cI 8 st.2.2.2.2, ob_TB qt qs qc K W F, ar_I qc cI 2312 ch] [] [some (.ref a), some (.int (iI x)), some (.int (iI y)), some (.int (iI w)), some (.int (iI h)), some (.int (iI 1)), some (.int (iI 1)), some (.int (iI h)), some (.int (iI w)), some (.int (iI fr)), some (.int (iI (i : Int))), none, none, none, none, none, none] [] 32 := by
    intro n
    induction n with
    | zero =>
      intro i fr st hi hfr hN hlt
      unfold lt1_go at hlt
      refine vv_iload d_LY_layTree_32 rfl ?_
      refine vv_bipush d_LY_layTree_34 (by decide +kernel) ?_
      refine vv_icmp_ge (tgt := 250) d_LY_layTree_36 (by decide) ⟨by omega, by omega⟩ (fun c36 => ?_) (fun c36 => ?_)
      · exact vv_vret hA hw hr d_LY_layTree_250 (by decide) (by decide) ⟨rfl, by rw [← hlt], rfl⟩
      · exfalso; omega
    | succ n ih =>
      intro i fr st hi hfr hN hlt
      unfold lt1_go at hlt
      refine vv_iload d_LY_layTree_32 rfl ?_
      refine vv_bipush d_LY_layTree_34 (by decide +kernel) ?_
      refine vv_icmp_ge (tgt := 250) d_LY_layTree_36 (by decide) ⟨by omega, by omega⟩ (fun c36 => ?_) (fun c36 => ?_)
      · exfalso; omega
      · skip
        refine vv_iload d_LY_layTree_39 rfl ?_
        refine vv_iload d_LY_layTree_41 rfl ?_
        refine vv_icmp_ge (tgt := 250) d_LY_layTree_43 (by decide) ⟨by omega, by omega⟩ (fun c43 => ?_) (fun c43 => ?_)
        · rw [if_neg (by omega)] at hlt; exact vv_vret hA hw hr d_LY_layTree_250 (by decide) (by decide) ⟨rfl, by rw [← hlt], rfl⟩
        · rw [if_pos (by omega)] at hlt
          have hch := hC 1 1 w (h - fr) (by omega) (by omega) (by omega) (by omega) (by omega) (by omega) (by omega) (by omega)
          rw [← rd_plc (ch := ch) (s := 1) (d := 1) (w := w) (h := (h - fr)) (by omega) (by omega) (by omega) (by omega)] at hch
          have hch2 : (rd_choiceAt ch (pl_at 1 1 w (h - fr))) ≤ 24 := by
            by_cases q : 8 < (rd_choiceAt ch (pl_at 1 1 w (h - fr)))
            · have q2 := (hch.2 q).2
              have q3 : (if (1 : Int) = 0 then w else (h - fr)) ≤ 16 := by split <;> omega
              omega
            · omega
          have hpl : -2147483648 ≤ pl_at 1 1 w (h - fr) ∧ pl_at 1 1 w (h - fr) < 2147483648 := by unfold pl_at; omega
          refine vv_iload d_LY_layTree_46 rfl ?_
          refine vv_if_ne (tgt := 58) d_LY_layTree_48 (by decide) ⟨by omega, by omega⟩ (fun c48 => ?_) (fun c48 => ?_)
          · skip
            refine vv_iload_n d_LY_layTree_58 rfl ?_
            refine vv_istore d_LY_layTree_59 rfl (by decide) ?_
            dsimp only [List.set]
            refine vv_iload d_LY_layTree_61 rfl ?_
            refine vv_if_ne (tgt := 70) d_LY_layTree_63 (by decide) ⟨by omega, by omega⟩ (fun c63 => ?_) (fun c63 => ?_)
            · skip
              refine vv_iload_n d_LY_layTree_70 rfl ?_
              refine vv_iload d_LY_layTree_71 rfl ?_
              refine vv_iadd d_LY_layTree_73 ?_
              refine vv_istore d_LY_layTree_74 rfl (by decide) ?_
              dsimp only [List.set]
              refine vv_iload d_LY_layTree_76 rfl ?_
              refine vv_if_ne (tgt := 89) d_LY_layTree_78 (by decide) ⟨by omega, by omega⟩ (fun c78 => ?_) (fun c78 => ?_)
              · skip
                refine vv_iload_n d_LY_layTree_89 rfl ?_
                refine vv_istore d_LY_layTree_90 rfl (by decide) ?_
                dsimp only [List.set]
                refine vv_iload d_LY_layTree_92 rfl ?_
                refine vv_if_ne (tgt := 102) d_LY_layTree_94 (by decide) ⟨by omega, by omega⟩ (fun c94 => ?_) (fun c94 => ?_)
                · skip
                  refine vv_iload d_LY_layTree_102 rfl ?_
                  refine vv_iload d_LY_layTree_104 rfl ?_
                  refine vv_isub d_LY_layTree_106 ?_
                  refine vv_istore d_LY_layTree_107 rfl (by decide) ?_
                  dsimp only [List.set]
                  refine vv_aload_n d_LY_layTree_109 rfl ?_
                  refine vv_get d_LY_layTree_110 0 rfl fl_LY_31 rfl ?_
                  refine vv_iload d_LY_layTree_113 rfl ?_
                  refine vv_iload d_LY_layTree_115 rfl ?_
                  refine vv_iload d_LY_layTree_117 rfl ?_
                  refine vv_iload d_LY_layTree_119 rfl ?_
                  refine vv_pV (wc := [ob_TB qt qs qc K W F, ar_I qc cI 2312 ch]) (plc := []) [] (c_TB_choiceOf (cx_l X) (cx_D X) cI qt qs qc K W F 1 1 w (h - fr) ch hpl) lk_LY_59 d_LY_layTree_121 rfl (rc_at 3 rfl rfl rfl) [3, 4] ⟨rfl, rfl, Or.inl rfl⟩ [0] rfl ⟨⟨by decide, by decide⟩, ⟨by decide, by decide⟩, Nat.le_of_ble_eq_true rfl⟩ ⟨rfl, rfl⟩ ?_
                  intro v hv
                  subst hv
                  dsimp only [Option.toList, List.cons_append, List.nil_append, List.append_nil]
                  refine vv_istore d_LY_layTree_124 rfl (by decide) ?_
                  dsimp only [List.set]
                  refine vv_iload d_LY_layTree_126 rfl ?_
                  refine vv_bipush d_LY_layTree_128 (by decide +kernel) ?_
                  refine vv_icmp_le (tgt := 139) d_LY_layTree_130 (by decide) ⟨by omega, by omega⟩ (fun c130 => ?_) (fun c130 => ?_)
                  · skip
                    refine vv_aload_n d_LY_layTree_139 rfl ?_
                    refine vv_iload d_LY_layTree_140 rfl ?_
                    refine vv_iload d_LY_layTree_142 rfl ?_
                    refine vv_iload d_LY_layTree_144 rfl ?_
                    refine vv_iload d_LY_layTree_146 rfl ?_
                    refine vv_iload d_LY_layTree_148 rfl ?_
                    refine vv_iload d_LY_layTree_150 rfl ?_
                    refine vv_pS (wc := []) (plc := []) [.int (iI (rd_choiceAt ch (pl_at 1 1 w (h - fr)))), .ref a] (c_PI_of (cx_l X) (cx_D X) (rd_choiceAt ch (pl_at 1 1 w (h - fr))) x (y + fr) w (h - fr) (by omega) (by omega) (by omega) (by omega) (by omega)) lk_LY_62 d_LY_layTree_152 rfl [] ⟨rfl, rfl, Or.inl rfl⟩ [] rfl ⟨⟨by decide, by decide⟩, ⟨by decide, by decide⟩, Nat.le_of_ble_eq_true rfl⟩ ⟨rfl, rfl⟩ ?_
                    intro v hv
                    subst hv
                    dsimp only [Option.toList, List.cons_append, List.nil_append, List.append_nil]
                    refine vv_nV hw (wc := [ob_LY a qt qp qo way st, ar_I qp cI 256 st.2.2.2.1, ar_I qo cI 8 st.2.2.2.2]) (wr := [ob_TB qt qs qc K W F, ar_I qc cI 2312 ch]) [] (c_LY_addPiece (cx_l X) (cx_D X) cI a qt qp qo way (rd_choiceAt ch (pl_at 1 1 w (h - fr))) (pk_z (rd_choiceAt ch (pl_at 1 1 w (h - fr))) x (y + fr) w (h - fr)) st hN (by omega)) lk_LY_68 d_LY_layTree_155 rfl (rc_at 0 rfl rfl rfl) [0, 1, 2] [3, 4] ⟨rfl, rfl⟩ ⟨rfl, rfl, by decide⟩ [0] rfl ⟨⟨by decide, by decide⟩, ⟨by decide, by decide⟩, Nat.le_of_ble_eq_true rfl⟩ ⟨rfl, rfl⟩ ?_
                    rintro v w1 p1 t1 ⟨rfl, rfl, rfl⟩
                    dsimp only [Option.toList, List.cons_append, List.nil_append, List.append_nil]
                    refine vv_sub (ws' := [ob_LY a qt qp qo way (ly_add (rd_choiceAt ch (pl_at 1 1 w (h - fr))) (pk_z (rd_choiceAt ch (pl_at 1 1 w (h - fr))) x (y + fr) w (h - fr)) st), ar_I qp cI 256 (ly_add (rd_choiceAt ch (pl_at 1 1 w (h - fr))) (pk_z (rd_choiceAt ch (pl_at 1 1 w (h - fr))) x (y + fr) w (h - fr)) st).2.2.2.1, ar_I qo cI 8 (ly_add (rd_choiceAt ch (pl_at 1 1 w (h - fr))) (pk_z (rd_choiceAt ch (pl_at 1 1 w (h - fr))) x (y + fr) w (h - fr)) st).2.2.2.2, ob_TB qt qs qc K W F, ar_I qc cI 2312 ch]) [2, 3, 4, 0, 1] rfl rfl ?_
                    rw [if_pos (Or.inl c130)] at hlt
                    exact vv_vret hA hw hr d_LY_layTree_158 (by decide) (by decide) ⟨rfl, by rw [← hlt], rfl⟩
                  · skip
                    refine vv_iload d_LY_layTree_133 rfl ?_
                    refine vv_iconst d_LY_layTree_135 ?_
                    refine vv_icmp_ge (tgt := 159) d_LY_layTree_136 (by decide) ⟨by omega, by omega⟩ (fun c136 => ?_) (fun c136 => ?_)
                    · rw [if_neg (by omega)] at hlt
                      have hch3 := hch.2 (by omega)
                      rw [if_neg (by decide)] at hch3
                      refine vv_iload d_LY_layTree_159 rfl ?_
                      refine vv_bipush d_LY_layTree_161 (by decide +kernel) ?_
                      refine vv_isub d_LY_layTree_163 ?_
                      refine vv_istore d_LY_layTree_164 rfl (by decide) ?_
                      dsimp only [List.set]
                      refine vv_aload_n d_LY_layTree_166 rfl ?_
                      refine vv_dup d_LY_layTree_167 rfl ?_
                      refine vv_get d_LY_layTree_168 0 rfl fl_LY_25 rfl ?_
                      refine vv_iconst d_LY_layTree_171 ?_
                      refine vv_iadd d_LY_layTree_172 ?_
                      refine vv_put hw d_LY_layTree_173 0 rfl fp_LY_25 rfl rfl (Nat.le_of_ble_eq_true rfl) ?_
                      dsimp only [List.set]
                      refine vv_aload_n d_LY_layTree_176 rfl ?_
                      refine vv_dup d_LY_layTree_177 rfl ?_
                      refine vv_get d_LY_layTree_178 0 rfl fl_LY_28 rfl ?_
                      refine vv_iload d_LY_layTree_181 rfl ?_
                      refine vv_iadd d_LY_layTree_183 ?_
                      refine vv_put hw d_LY_layTree_184 0 rfl fp_LY_28 rfl rfl (Nat.le_of_ble_eq_true rfl) ?_
                      dsimp only [List.set]
                      refine vv_iload d_LY_layTree_187 rfl ?_
                      refine vv_if_ne (tgt := 212) d_LY_layTree_189 (by decide) ⟨by omega, by omega⟩ (fun c189 => ?_) (fun c189 => ?_)
                      · skip
                        refine vv_aload_n d_LY_layTree_212 rfl ?_
                        refine vv_iload d_LY_layTree_213 rfl ?_
                        refine vv_iload d_LY_layTree_215 rfl ?_
                        refine vv_iload d_LY_layTree_217 rfl ?_
                        refine vv_iload d_LY_layTree_219 rfl ?_
                        refine vv_iconst d_LY_layTree_221 ?_
                        refine vv_iload d_LY_layTree_222 rfl ?_
                        refine vv_iconst d_LY_layTree_224 ?_
                        refine vv_isub d_LY_layTree_225 ?_
                        refine vv_nV hw (wc := [ob_LY a qt qp qo way (ly_cut w st), ar_I qp cI 256 (ly_cut w st).2.2.2.1, ar_I qo cI 8 (ly_cut w st).2.2.2.2, ob_TB qt qs qc K W F, ar_I qc cI 2312 ch]) (wr := []) [] (c_LY_layTree_0_0 (cx_l X) (cx_D X) cI a qt qp qo qs qc way K W F x (y + fr) w ((rd_choiceAt ch (pl_at 1 1 w (h - fr))) - 8) ch (ly_cut w st) hK hC hN (by unfold okp; omega)) lk_LY_55 d_LY_layTree_226 rfl (rc_at 0 rfl rfl rfl) [0, 1, 2, 3, 4] [] ⟨rfl, rfl⟩ ⟨rfl, rfl, by decide⟩ [0] rfl ⟨⟨by decide, by decide⟩, ⟨by decide, by decide⟩, Nat.le_of_ble_eq_true rfl⟩ ⟨rfl, rfl⟩ ?_
                        rintro v w1 p1 t1 ⟨rfl, rfl, rfl⟩
                        dsimp only [Option.toList, List.cons_append, List.nil_append, List.append_nil]
                        refine vv_iload d_LY_layTree_229 rfl ?_
                        refine vv_iload d_LY_layTree_231 rfl ?_
                        refine vv_aload_n d_LY_layTree_233 rfl ?_
                        refine vv_get d_LY_layTree_234 0 rfl fl_LY_31 rfl ?_
                        refine vv_get d_LY_layTree_237 3 rfl fl_LY_72 rfl ?_
                        refine vv_iadd d_LY_layTree_240 ?_
                        refine vv_iadd d_LY_layTree_241 ?_
                        refine vv_istore d_LY_layTree_242 rfl (by decide) ?_
                        dsimp only [List.set]
                        refine vv_iinc d_LY_layTree_244 rfl rfl (by decide) ?_
                        dsimp only [List.set]
                        refine vv_goto (tgt := 32) d_LY_layTree_247 (by decide) ?_
                        exact vv_le (by repeat (first | exact lo_le_nil _ | refine lo_le_cons _ ?_ | refine lo_le_none _ ?_)) (ih (i + 1) _ _ (by omega) (by omega) (LN_lt _ _ _ _ _ _ _ hN) hlt)
                      · exfalso; omega
                    · exfalso; omega
                · exfalso; omega
              · exfalso; omega
            · exfalso; omega
          · exfalso; omega
  show VV X (b_LY_layTree, 17, "SheetTrees$Layout", rm_3) _ 0 0 [(cI, .int)] [ob_LY a qt qp qo way st0, ar_I qp cI 256 st0.2.2.2.1, ar_I qo cI 8 st0.2.2.2.2, ob_TB qt qs qc K W F, ar_I qc cI 2312 ch] [] [some (.ref a), some (.int (iI x)), some (.int (iI y)), some (.int (iI w)), some (.int (iI h)), some (.int (iI 1)), some (.int (iI 1)), none, none, none, none, none, none, none, none, none, none] [] 0
  refine vv_iload d_LY_layTree_0 rfl ?_
  refine vv_if_ne (tgt := 9) d_LY_layTree_2 (by decide) ⟨by omega, by omega⟩ (fun c2 => ?_) (fun c2 => ?_)
  · skip
    refine vv_iload d_LY_layTree_9 rfl ?_
    refine vv_istore d_LY_layTree_11 rfl (by decide) ?_
    dsimp only [List.set]
    refine vv_iload d_LY_layTree_13 rfl ?_
    refine vv_if_ne (tgt := 23) d_LY_layTree_15 (by decide) ⟨by omega, by omega⟩ (fun c15 => ?_) (fun c15 => ?_)
    · skip
      refine vv_iload_n d_LY_layTree_23 rfl ?_
      refine vv_istore d_LY_layTree_24 rfl (by decide) ?_
      dsimp only [List.set]
      refine vv_iconst d_LY_layTree_26 ?_
      refine vv_istore d_LY_layTree_27 rfl (by decide) ?_
      dsimp only [List.set]
      refine vv_iconst d_LY_layTree_29 ?_
      refine vv_istore d_LY_layTree_30 rfl (by decide) ?_
      dsimp only [List.set]
      exact loop 16 0 0 st0 (by omega) (by omega) hN0 rfl
    · exfalso; omega
  · exfalso; omega
set_option maxHeartbeats 4000000 in
set_option maxRecDepth 100000 in
theorem c_LY_layTree_2_0 (l : Launch) (D : va_G) (cI : ClassId) (a qt qp qo qs qc : Nat) (way K W F x y w h : Int) (ch : Nat → Int) (st0 : ly_T) (hK : 0 ≤ K ∧ K ≤ 3) (hC : CI ch) (hN0 : LN st0) (hok : okp x y w h) : CM l y_LY_layTree b_LY_layTree 17 none rm_4 [.ref a, .int (iI x), .int (iI y), .int (iI w), .int (iI h), .int (iI 0), .int (iI 2)] D [(cI, .int)] ([ob_LY a qt qp qo way st0, ar_I qp cI 256 st0.2.2.2.1, ar_I qo cI 8 st0.2.2.2.2, ob_TB qt qs qc K W F, ar_I qc cI 2312 ch] ++ []) (fun r w1 p1 _ => r = none ∧ w1 = [ob_LY a qt qp qo way (lt ch K 2 false x y w h st0), ar_I qp cI 256 (lt ch K 2 false x y w h st0).2.2.2.1, ar_I qo cI 8 (lt ch K 2 false x y w h st0).2.2.2.2, ob_TB qt qs qc K W F, ar_I qc cI 2312 ch] ∧ p1 = []) := by
  refine cm_of (by decide) (Nat.le_of_ble_eq_true rfl) ?_
  intro X sz hl hr hnm hD hA hw
  subst hD
  unfold okp at hok
  have loop : ∀ (n i : Nat) (fr : Int) (st : ly_T), i + n = 16 → 0 ≤ fr ∧ fr ≤ 60 → LN st → lt0_go (lt ch K 1 true) ch K 2 x y w h n fr st = (lt ch K 2 false x y w h st0) → VV X (b_LY_layTree, 17, "SheetTrees$Layout", rm_4) (cq X ([ob_LY a qt qp qo way st0, ar_I qp cI 256 st0.2.2.2.1, ar_I qo cI 8 st0.2.2.2.2, ob_TB qt qs qc K W F, ar_I qc cI 2312 ch] ++ []) sz (fun r w1 p1 _ => r = none ∧ w1 = [ob_LY a qt qp qo way (lt ch K 2 false x y w h st0), ar_I qp cI 256 (lt ch K 2 false x y w h st0).2.2.2.1, ar_I qo cI 8 (lt ch K 2 false x y w h st0).2.2.2.2, ob_TB qt qs qc K W F, ar_I qc cI 2312 ch] ∧ p1 = []) rm_4) 0 0 [(cI, .int)] [ob_LY a qt qp qo way st, ar_I qp cI 256 st.2.2.2.1, ar_I qo cI 8 st.2.2.2.2, ob_TB qt qs qc K W F, ar_I qc cI 2312 ch] [] [some (.ref a), some (.int (iI x)), some (.int (iI y)), some (.int (iI w)), some (.int (iI h)), some (.int (iI 0)), some (.int (iI 2)), some (.int (iI w)), some (.int (iI h)), some (.int (iI fr)), some (.int (iI (i : Int))), none, none, none, none, none, none] [] 32 := by
    intro n
    induction n with
    | zero =>
      intro i fr st hi hfr hN hlt
      unfold lt0_go at hlt
      refine vv_iload d_LY_layTree_32 rfl ?_
      refine vv_bipush d_LY_layTree_34 (by decide +kernel) ?_
      refine vv_icmp_ge (tgt := 250) d_LY_layTree_36 (by decide) ⟨by omega, by omega⟩ (fun c36 => ?_) (fun c36 => ?_)
      · exact vv_vret hA hw hr d_LY_layTree_250 (by decide) (by decide) ⟨rfl, by rw [← hlt], rfl⟩
      · exfalso; omega
    | succ n ih =>
      intro i fr st hi hfr hN hlt
      unfold lt0_go at hlt
      refine vv_iload d_LY_layTree_32 rfl ?_
      refine vv_bipush d_LY_layTree_34 (by decide +kernel) ?_
      refine vv_icmp_ge (tgt := 250) d_LY_layTree_36 (by decide) ⟨by omega, by omega⟩ (fun c36 => ?_) (fun c36 => ?_)
      · exfalso; omega
      · skip
        refine vv_iload d_LY_layTree_39 rfl ?_
        refine vv_iload d_LY_layTree_41 rfl ?_
        refine vv_icmp_ge (tgt := 250) d_LY_layTree_43 (by decide) ⟨by omega, by omega⟩ (fun c43 => ?_) (fun c43 => ?_)
        · rw [if_neg (by omega)] at hlt; exact vv_vret hA hw hr d_LY_layTree_250 (by decide) (by decide) ⟨rfl, by rw [← hlt], rfl⟩
        · rw [if_pos (by omega)] at hlt
          have hch := hC 2 0 (w - fr) h (by omega) (by omega) (by omega) (by omega) (by omega) (by omega) (by omega) (by omega)
          rw [← rd_plc (ch := ch) (s := 2) (d := 0) (w := (w - fr)) (h := h) (by omega) (by omega) (by omega) (by omega)] at hch
          have hch2 : (rd_choiceAt ch (pl_at 2 0 (w - fr) h)) ≤ 24 := by
            by_cases q : 8 < (rd_choiceAt ch (pl_at 2 0 (w - fr) h))
            · have q2 := (hch.2 q).2
              have q3 : (if (0 : Int) = 0 then (w - fr) else h) ≤ 16 := by split <;> omega
              omega
            · omega
          have hpl : -2147483648 ≤ pl_at 2 0 (w - fr) h ∧ pl_at 2 0 (w - fr) h < 2147483648 := by unfold pl_at; omega
          refine vv_iload d_LY_layTree_46 rfl ?_
          refine vv_if_ne (tgt := 58) d_LY_layTree_48 (by decide) ⟨by omega, by omega⟩ (fun c48 => ?_) (fun c48 => ?_)
          · exfalso; omega
          · skip
            refine vv_iload_n d_LY_layTree_51 rfl ?_
            refine vv_iload d_LY_layTree_52 rfl ?_
            refine vv_iadd d_LY_layTree_54 ?_
            refine vv_goto (tgt := 59) d_LY_layTree_55 (by decide) ?_
            refine vv_istore d_LY_layTree_59 rfl (by decide) ?_
            dsimp only [List.set]
            refine vv_iload d_LY_layTree_61 rfl ?_
            refine vv_if_ne (tgt := 70) d_LY_layTree_63 (by decide) ⟨by omega, by omega⟩ (fun c63 => ?_) (fun c63 => ?_)
            · exfalso; omega
            · skip
              refine vv_iload_n d_LY_layTree_66 rfl ?_
              refine vv_goto (tgt := 74) d_LY_layTree_67 (by decide) ?_
              refine vv_istore d_LY_layTree_74 rfl (by decide) ?_
              dsimp only [List.set]
              refine vv_iload d_LY_layTree_76 rfl ?_
              refine vv_if_ne (tgt := 89) d_LY_layTree_78 (by decide) ⟨by omega, by omega⟩ (fun c78 => ?_) (fun c78 => ?_)
              · exfalso; omega
              · skip
                refine vv_iload d_LY_layTree_81 rfl ?_
                refine vv_iload d_LY_layTree_83 rfl ?_
                refine vv_isub d_LY_layTree_85 ?_
                refine vv_goto (tgt := 90) d_LY_layTree_86 (by decide) ?_
                refine vv_istore d_LY_layTree_90 rfl (by decide) ?_
                dsimp only [List.set]
                refine vv_iload d_LY_layTree_92 rfl ?_
                refine vv_if_ne (tgt := 102) d_LY_layTree_94 (by decide) ⟨by omega, by omega⟩ (fun c94 => ?_) (fun c94 => ?_)
                · exfalso; omega
                · skip
                  refine vv_iload d_LY_layTree_97 rfl ?_
                  refine vv_goto (tgt := 107) d_LY_layTree_99 (by decide) ?_
                  refine vv_istore d_LY_layTree_107 rfl (by decide) ?_
                  dsimp only [List.set]
                  refine vv_aload_n d_LY_layTree_109 rfl ?_
                  refine vv_get d_LY_layTree_110 0 rfl fl_LY_31 rfl ?_
                  refine vv_iload d_LY_layTree_113 rfl ?_
                  refine vv_iload d_LY_layTree_115 rfl ?_
                  refine vv_iload d_LY_layTree_117 rfl ?_
                  refine vv_iload d_LY_layTree_119 rfl ?_
                  refine vv_pV (wc := [ob_TB qt qs qc K W F, ar_I qc cI 2312 ch]) (plc := []) [] (c_TB_choiceOf (cx_l X) (cx_D X) cI qt qs qc K W F 2 0 (w - fr) h ch hpl) lk_LY_59 d_LY_layTree_121 rfl (rc_at 3 rfl rfl rfl) [3, 4] ⟨rfl, rfl, Or.inl rfl⟩ [0] rfl ⟨⟨by decide, by decide⟩, ⟨by decide, by decide⟩, Nat.le_of_ble_eq_true rfl⟩ ⟨rfl, rfl⟩ ?_
                  intro v hv
                  subst hv
                  dsimp only [Option.toList, List.cons_append, List.nil_append, List.append_nil]
                  refine vv_istore d_LY_layTree_124 rfl (by decide) ?_
                  dsimp only [List.set]
                  refine vv_iload d_LY_layTree_126 rfl ?_
                  refine vv_bipush d_LY_layTree_128 (by decide +kernel) ?_
                  refine vv_icmp_le (tgt := 139) d_LY_layTree_130 (by decide) ⟨by omega, by omega⟩ (fun c130 => ?_) (fun c130 => ?_)
                  · skip
                    refine vv_aload_n d_LY_layTree_139 rfl ?_
                    refine vv_iload d_LY_layTree_140 rfl ?_
                    refine vv_iload d_LY_layTree_142 rfl ?_
                    refine vv_iload d_LY_layTree_144 rfl ?_
                    refine vv_iload d_LY_layTree_146 rfl ?_
                    refine vv_iload d_LY_layTree_148 rfl ?_
                    refine vv_iload d_LY_layTree_150 rfl ?_
                    refine vv_pS (wc := []) (plc := []) [.int (iI (rd_choiceAt ch (pl_at 2 0 (w - fr) h))), .ref a] (c_PI_of (cx_l X) (cx_D X) (rd_choiceAt ch (pl_at 2 0 (w - fr) h)) (x + fr) y (w - fr) h (by omega) (by omega) (by omega) (by omega) (by omega)) lk_LY_62 d_LY_layTree_152 rfl [] ⟨rfl, rfl, Or.inl rfl⟩ [] rfl ⟨⟨by decide, by decide⟩, ⟨by decide, by decide⟩, Nat.le_of_ble_eq_true rfl⟩ ⟨rfl, rfl⟩ ?_
                    intro v hv
                    subst hv
                    dsimp only [Option.toList, List.cons_append, List.nil_append, List.append_nil]
                    refine vv_nV hw (wc := [ob_LY a qt qp qo way st, ar_I qp cI 256 st.2.2.2.1, ar_I qo cI 8 st.2.2.2.2]) (wr := [ob_TB qt qs qc K W F, ar_I qc cI 2312 ch]) [] (c_LY_addPiece (cx_l X) (cx_D X) cI a qt qp qo way (rd_choiceAt ch (pl_at 2 0 (w - fr) h)) (pk_z (rd_choiceAt ch (pl_at 2 0 (w - fr) h)) (x + fr) y (w - fr) h) st hN (by omega)) lk_LY_68 d_LY_layTree_155 rfl (rc_at 0 rfl rfl rfl) [0, 1, 2] [3, 4] ⟨rfl, rfl⟩ ⟨rfl, rfl, by decide⟩ [0] rfl ⟨⟨by decide, by decide⟩, ⟨by decide, by decide⟩, Nat.le_of_ble_eq_true rfl⟩ ⟨rfl, rfl⟩ ?_
                    rintro v w1 p1 t1 ⟨rfl, rfl, rfl⟩
                    dsimp only [Option.toList, List.cons_append, List.nil_append, List.append_nil]
                    refine vv_sub (ws' := [ob_LY a qt qp qo way (ly_add (rd_choiceAt ch (pl_at 2 0 (w - fr) h)) (pk_z (rd_choiceAt ch (pl_at 2 0 (w - fr) h)) (x + fr) y (w - fr) h) st), ar_I qp cI 256 (ly_add (rd_choiceAt ch (pl_at 2 0 (w - fr) h)) (pk_z (rd_choiceAt ch (pl_at 2 0 (w - fr) h)) (x + fr) y (w - fr) h) st).2.2.2.1, ar_I qo cI 8 (ly_add (rd_choiceAt ch (pl_at 2 0 (w - fr) h)) (pk_z (rd_choiceAt ch (pl_at 2 0 (w - fr) h)) (x + fr) y (w - fr) h) st).2.2.2.2, ob_TB qt qs qc K W F, ar_I qc cI 2312 ch]) [2, 3, 4, 0, 1] rfl rfl ?_
                    rw [if_pos (Or.inl c130)] at hlt
                    exact vv_vret hA hw hr d_LY_layTree_158 (by decide) (by decide) ⟨rfl, by rw [← hlt], rfl⟩
                  · skip
                    refine vv_iload d_LY_layTree_133 rfl ?_
                    refine vv_iconst d_LY_layTree_135 ?_
                    refine vv_icmp_ge (tgt := 159) d_LY_layTree_136 (by decide) ⟨by omega, by omega⟩ (fun c136 => ?_) (fun c136 => ?_)
                    · rw [if_neg (by omega)] at hlt
                      have hch3 := hch.2 (by omega)
                      rw [if_pos rfl] at hch3
                      refine vv_iload d_LY_layTree_159 rfl ?_
                      refine vv_bipush d_LY_layTree_161 (by decide +kernel) ?_
                      refine vv_isub d_LY_layTree_163 ?_
                      refine vv_istore d_LY_layTree_164 rfl (by decide) ?_
                      dsimp only [List.set]
                      refine vv_aload_n d_LY_layTree_166 rfl ?_
                      refine vv_dup d_LY_layTree_167 rfl ?_
                      refine vv_get d_LY_layTree_168 0 rfl fl_LY_25 rfl ?_
                      refine vv_iconst d_LY_layTree_171 ?_
                      refine vv_iadd d_LY_layTree_172 ?_
                      refine vv_put hw d_LY_layTree_173 0 rfl fp_LY_25 rfl rfl (Nat.le_of_ble_eq_true rfl) ?_
                      dsimp only [List.set]
                      refine vv_aload_n d_LY_layTree_176 rfl ?_
                      refine vv_dup d_LY_layTree_177 rfl ?_
                      refine vv_get d_LY_layTree_178 0 rfl fl_LY_28 rfl ?_
                      refine vv_iload d_LY_layTree_181 rfl ?_
                      refine vv_iadd d_LY_layTree_183 ?_
                      refine vv_put hw d_LY_layTree_184 0 rfl fp_LY_28 rfl rfl (Nat.le_of_ble_eq_true rfl) ?_
                      dsimp only [List.set]
                      refine vv_iload d_LY_layTree_187 rfl ?_
                      refine vv_if_ne (tgt := 212) d_LY_layTree_189 (by decide) ⟨by omega, by omega⟩ (fun c189 => ?_) (fun c189 => ?_)
                      · exfalso; omega
                      · skip
                        refine vv_aload_n d_LY_layTree_192 rfl ?_
                        refine vv_iload d_LY_layTree_193 rfl ?_
                        refine vv_iload d_LY_layTree_195 rfl ?_
                        refine vv_iload d_LY_layTree_197 rfl ?_
                        refine vv_iload d_LY_layTree_199 rfl ?_
                        refine vv_iconst d_LY_layTree_201 ?_
                        refine vv_iload d_LY_layTree_202 rfl ?_
                        refine vv_iconst d_LY_layTree_204 ?_
                        refine vv_isub d_LY_layTree_205 ?_
                        refine vv_nV hw (wc := [ob_LY a qt qp qo way (ly_cut h st), ar_I qp cI 256 (ly_cut h st).2.2.2.1, ar_I qo cI 8 (ly_cut h st).2.2.2.2, ob_TB qt qs qc K W F, ar_I qc cI 2312 ch]) (wr := []) [] (c_LY_layTree_1_1 (cx_l X) (cx_D X) cI a qt qp qo qs qc way K W F (x + fr) y ((rd_choiceAt ch (pl_at 2 0 (w - fr) h)) - 8) h ch (ly_cut h st) hK hC hN (by unfold okp; omega)) lk_LY_55 d_LY_layTree_206 rfl (rc_at 0 rfl rfl rfl) [0, 1, 2, 3, 4] [] ⟨rfl, rfl⟩ ⟨rfl, rfl, by decide⟩ [0] rfl ⟨⟨by decide, by decide⟩, ⟨by decide, by decide⟩, Nat.le_of_ble_eq_true rfl⟩ ⟨rfl, rfl⟩ ?_
                        rintro v w1 p1 t1 ⟨rfl, rfl, rfl⟩
                        dsimp only [Option.toList, List.cons_append, List.nil_append, List.append_nil]
                        refine vv_goto (tgt := 229) d_LY_layTree_209 (by decide) ?_
                        refine vv_iload d_LY_layTree_229 rfl ?_
                        refine vv_iload d_LY_layTree_231 rfl ?_
                        refine vv_aload_n d_LY_layTree_233 rfl ?_
                        refine vv_get d_LY_layTree_234 0 rfl fl_LY_31 rfl ?_
                        refine vv_get d_LY_layTree_237 3 rfl fl_LY_72 rfl ?_
                        refine vv_iadd d_LY_layTree_240 ?_
                        refine vv_iadd d_LY_layTree_241 ?_
                        refine vv_istore d_LY_layTree_242 rfl (by decide) ?_
                        dsimp only [List.set]
                        refine vv_iinc d_LY_layTree_244 rfl rfl (by decide) ?_
                        dsimp only [List.set]
                        refine vv_goto (tgt := 32) d_LY_layTree_247 (by decide) ?_
                        exact vv_le (by repeat (first | exact lo_le_nil _ | refine lo_le_cons _ ?_ | refine lo_le_none _ ?_)) (ih (i + 1) _ _ (by omega) (by omega) (LN_lt _ _ _ _ _ _ _ hN) hlt)
                    · exfalso; omega
  show VV X (b_LY_layTree, 17, "SheetTrees$Layout", rm_4) _ 0 0 [(cI, .int)] [ob_LY a qt qp qo way st0, ar_I qp cI 256 st0.2.2.2.1, ar_I qo cI 8 st0.2.2.2.2, ob_TB qt qs qc K W F, ar_I qc cI 2312 ch] [] [some (.ref a), some (.int (iI x)), some (.int (iI y)), some (.int (iI w)), some (.int (iI h)), some (.int (iI 0)), some (.int (iI 2)), none, none, none, none, none, none, none, none, none, none] [] 0
  refine vv_iload d_LY_layTree_0 rfl ?_
  refine vv_if_ne (tgt := 9) d_LY_layTree_2 (by decide) ⟨by omega, by omega⟩ (fun c2 => ?_) (fun c2 => ?_)
  · exfalso; omega
  · skip
    refine vv_iload_n d_LY_layTree_5 rfl ?_
    refine vv_goto (tgt := 11) d_LY_layTree_6 (by decide) ?_
    refine vv_istore d_LY_layTree_11 rfl (by decide) ?_
    dsimp only [List.set]
    refine vv_iload d_LY_layTree_13 rfl ?_
    refine vv_if_ne (tgt := 23) d_LY_layTree_15 (by decide) ⟨by omega, by omega⟩ (fun c15 => ?_) (fun c15 => ?_)
    · exfalso; omega
    · skip
      refine vv_iload d_LY_layTree_18 rfl ?_
      refine vv_goto (tgt := 24) d_LY_layTree_20 (by decide) ?_
      refine vv_istore d_LY_layTree_24 rfl (by decide) ?_
      dsimp only [List.set]
      refine vv_iconst d_LY_layTree_26 ?_
      refine vv_istore d_LY_layTree_27 rfl (by decide) ?_
      dsimp only [List.set]
      refine vv_iconst d_LY_layTree_29 ?_
      refine vv_istore d_LY_layTree_30 rfl (by decide) ?_
      dsimp only [List.set]
      exact loop 16 0 0 st0 (by omega) (by omega) hN0 rfl
set_option maxHeartbeats 4000000 in
set_option maxRecDepth 100000 in
theorem c_LY_layTree_2_1 (l : Launch) (D : va_G) (cI : ClassId) (a qt qp qo qs qc : Nat) (way K W F x y w h : Int) (ch : Nat → Int) (st0 : ly_T) (hK : 0 ≤ K ∧ K ≤ 3) (hC : CI ch) (hN0 : LN st0) (hok : okp x y w h) : CM l y_LY_layTree b_LY_layTree 17 none rm_4 [.ref a, .int (iI x), .int (iI y), .int (iI w), .int (iI h), .int (iI 1), .int (iI 2)] D [(cI, .int)] ([ob_LY a qt qp qo way st0, ar_I qp cI 256 st0.2.2.2.1, ar_I qo cI 8 st0.2.2.2.2, ob_TB qt qs qc K W F, ar_I qc cI 2312 ch] ++ []) (fun r w1 p1 _ => r = none ∧ w1 = [ob_LY a qt qp qo way (lt ch K 2 true x y w h st0), ar_I qp cI 256 (lt ch K 2 true x y w h st0).2.2.2.1, ar_I qo cI 8 (lt ch K 2 true x y w h st0).2.2.2.2, ob_TB qt qs qc K W F, ar_I qc cI 2312 ch] ∧ p1 = []) := by
  refine cm_of (by decide) (Nat.le_of_ble_eq_true rfl) ?_
  intro X sz hl hr hnm hD hA hw
  subst hD
  unfold okp at hok
  have loop : ∀ (n i : Nat) (fr : Int) (st : ly_T), i + n = 16 → 0 ≤ fr ∧ fr ≤ 60 → LN st → lt1_go (lt ch K 1 false) ch K 2 x y w h n fr st = (lt ch K 2 true x y w h st0) → VV X (b_LY_layTree, 17, "SheetTrees$Layout", rm_4) (cq X ([ob_LY a qt qp qo way st0, ar_I qp cI 256 st0.2.2.2.1, ar_I qo cI 8 st0.2.2.2.2, ob_TB qt qs qc K W F, ar_I qc cI 2312 ch] ++ []) sz (fun r w1 p1 _ => r = none ∧ w1 = [ob_LY a qt qp qo way (lt ch K 2 true x y w h st0), ar_I qp cI 256 (lt ch K 2 true x y w h st0).2.2.2.1, ar_I qo cI 8 (lt ch K 2 true x y w h st0).2.2.2.2, ob_TB qt qs qc K W F, ar_I qc cI 2312 ch] ∧ p1 = []) rm_4) 0 0 [(cI, .int)] [ob_LY a qt qp qo way st, ar_I qp cI 256 st.2.2.2.1, ar_I qo cI 8 st.2.2.2.2, ob_TB qt qs qc K W F, ar_I qc cI 2312 ch] [] [some (.ref a), some (.int (iI x)), some (.int (iI y)), some (.int (iI w)), some (.int (iI h)), some (.int (iI 1)), some (.int (iI 2)), some (.int (iI h)), some (.int (iI w)), some (.int (iI fr)), some (.int (iI (i : Int))), none, none, none, none, none, none] [] 32 := by
    intro n
    induction n with
    | zero =>
      intro i fr st hi hfr hN hlt
      unfold lt1_go at hlt
      refine vv_iload d_LY_layTree_32 rfl ?_
      refine vv_bipush d_LY_layTree_34 (by decide +kernel) ?_
      refine vv_icmp_ge (tgt := 250) d_LY_layTree_36 (by decide) ⟨by omega, by omega⟩ (fun c36 => ?_) (fun c36 => ?_)
      · exact vv_vret hA hw hr d_LY_layTree_250 (by decide) (by decide) ⟨rfl, by rw [← hlt], rfl⟩
      · exfalso; omega
    | succ n ih =>
      intro i fr st hi hfr hN hlt
      unfold lt1_go at hlt
      refine vv_iload d_LY_layTree_32 rfl ?_
      refine vv_bipush d_LY_layTree_34 (by decide +kernel) ?_
      refine vv_icmp_ge (tgt := 250) d_LY_layTree_36 (by decide) ⟨by omega, by omega⟩ (fun c36 => ?_) (fun c36 => ?_)
      · exfalso; omega
      · skip
        refine vv_iload d_LY_layTree_39 rfl ?_
        refine vv_iload d_LY_layTree_41 rfl ?_
        refine vv_icmp_ge (tgt := 250) d_LY_layTree_43 (by decide) ⟨by omega, by omega⟩ (fun c43 => ?_) (fun c43 => ?_)
        · rw [if_neg (by omega)] at hlt; exact vv_vret hA hw hr d_LY_layTree_250 (by decide) (by decide) ⟨rfl, by rw [← hlt], rfl⟩
        · rw [if_pos (by omega)] at hlt
          have hch := hC 2 1 w (h - fr) (by omega) (by omega) (by omega) (by omega) (by omega) (by omega) (by omega) (by omega)
          rw [← rd_plc (ch := ch) (s := 2) (d := 1) (w := w) (h := (h - fr)) (by omega) (by omega) (by omega) (by omega)] at hch
          have hch2 : (rd_choiceAt ch (pl_at 2 1 w (h - fr))) ≤ 24 := by
            by_cases q : 8 < (rd_choiceAt ch (pl_at 2 1 w (h - fr)))
            · have q2 := (hch.2 q).2
              have q3 : (if (1 : Int) = 0 then w else (h - fr)) ≤ 16 := by split <;> omega
              omega
            · omega
          have hpl : -2147483648 ≤ pl_at 2 1 w (h - fr) ∧ pl_at 2 1 w (h - fr) < 2147483648 := by unfold pl_at; omega
          refine vv_iload d_LY_layTree_46 rfl ?_
          refine vv_if_ne (tgt := 58) d_LY_layTree_48 (by decide) ⟨by omega, by omega⟩ (fun c48 => ?_) (fun c48 => ?_)
          · skip
            refine vv_iload_n d_LY_layTree_58 rfl ?_
            refine vv_istore d_LY_layTree_59 rfl (by decide) ?_
            dsimp only [List.set]
            refine vv_iload d_LY_layTree_61 rfl ?_
            refine vv_if_ne (tgt := 70) d_LY_layTree_63 (by decide) ⟨by omega, by omega⟩ (fun c63 => ?_) (fun c63 => ?_)
            · skip
              refine vv_iload_n d_LY_layTree_70 rfl ?_
              refine vv_iload d_LY_layTree_71 rfl ?_
              refine vv_iadd d_LY_layTree_73 ?_
              refine vv_istore d_LY_layTree_74 rfl (by decide) ?_
              dsimp only [List.set]
              refine vv_iload d_LY_layTree_76 rfl ?_
              refine vv_if_ne (tgt := 89) d_LY_layTree_78 (by decide) ⟨by omega, by omega⟩ (fun c78 => ?_) (fun c78 => ?_)
              · skip
                refine vv_iload_n d_LY_layTree_89 rfl ?_
                refine vv_istore d_LY_layTree_90 rfl (by decide) ?_
                dsimp only [List.set]
                refine vv_iload d_LY_layTree_92 rfl ?_
                refine vv_if_ne (tgt := 102) d_LY_layTree_94 (by decide) ⟨by omega, by omega⟩ (fun c94 => ?_) (fun c94 => ?_)
                · skip
                  refine vv_iload d_LY_layTree_102 rfl ?_
                  refine vv_iload d_LY_layTree_104 rfl ?_
                  refine vv_isub d_LY_layTree_106 ?_
                  refine vv_istore d_LY_layTree_107 rfl (by decide) ?_
                  dsimp only [List.set]
                  refine vv_aload_n d_LY_layTree_109 rfl ?_
                  refine vv_get d_LY_layTree_110 0 rfl fl_LY_31 rfl ?_
                  refine vv_iload d_LY_layTree_113 rfl ?_
                  refine vv_iload d_LY_layTree_115 rfl ?_
                  refine vv_iload d_LY_layTree_117 rfl ?_
                  refine vv_iload d_LY_layTree_119 rfl ?_
                  refine vv_pV (wc := [ob_TB qt qs qc K W F, ar_I qc cI 2312 ch]) (plc := []) [] (c_TB_choiceOf (cx_l X) (cx_D X) cI qt qs qc K W F 2 1 w (h - fr) ch hpl) lk_LY_59 d_LY_layTree_121 rfl (rc_at 3 rfl rfl rfl) [3, 4] ⟨rfl, rfl, Or.inl rfl⟩ [0] rfl ⟨⟨by decide, by decide⟩, ⟨by decide, by decide⟩, Nat.le_of_ble_eq_true rfl⟩ ⟨rfl, rfl⟩ ?_
                  intro v hv
                  subst hv
                  dsimp only [Option.toList, List.cons_append, List.nil_append, List.append_nil]
                  refine vv_istore d_LY_layTree_124 rfl (by decide) ?_
                  dsimp only [List.set]
                  refine vv_iload d_LY_layTree_126 rfl ?_
                  refine vv_bipush d_LY_layTree_128 (by decide +kernel) ?_
                  refine vv_icmp_le (tgt := 139) d_LY_layTree_130 (by decide) ⟨by omega, by omega⟩ (fun c130 => ?_) (fun c130 => ?_)
                  · skip
                    refine vv_aload_n d_LY_layTree_139 rfl ?_
                    refine vv_iload d_LY_layTree_140 rfl ?_
                    refine vv_iload d_LY_layTree_142 rfl ?_
                    refine vv_iload d_LY_layTree_144 rfl ?_
                    refine vv_iload d_LY_layTree_146 rfl ?_
                    refine vv_iload d_LY_layTree_148 rfl ?_
                    refine vv_iload d_LY_layTree_150 rfl ?_
                    refine vv_pS (wc := []) (plc := []) [.int (iI (rd_choiceAt ch (pl_at 2 1 w (h - fr)))), .ref a] (c_PI_of (cx_l X) (cx_D X) (rd_choiceAt ch (pl_at 2 1 w (h - fr))) x (y + fr) w (h - fr) (by omega) (by omega) (by omega) (by omega) (by omega)) lk_LY_62 d_LY_layTree_152 rfl [] ⟨rfl, rfl, Or.inl rfl⟩ [] rfl ⟨⟨by decide, by decide⟩, ⟨by decide, by decide⟩, Nat.le_of_ble_eq_true rfl⟩ ⟨rfl, rfl⟩ ?_
                    intro v hv
                    subst hv
                    dsimp only [Option.toList, List.cons_append, List.nil_append, List.append_nil]
                    refine vv_nV hw (wc := [ob_LY a qt qp qo way st, ar_I qp cI 256 st.2.2.2.1, ar_I qo cI 8 st.2.2.2.2]) (wr := [ob_TB qt qs qc K W F, ar_I qc cI 2312 ch]) [] (c_LY_addPiece (cx_l X) (cx_D X) cI a qt qp qo way (rd_choiceAt ch (pl_at 2 1 w (h - fr))) (pk_z (rd_choiceAt ch (pl_at 2 1 w (h - fr))) x (y + fr) w (h - fr)) st hN (by omega)) lk_LY_68 d_LY_layTree_155 rfl (rc_at 0 rfl rfl rfl) [0, 1, 2] [3, 4] ⟨rfl, rfl⟩ ⟨rfl, rfl, by decide⟩ [0] rfl ⟨⟨by decide, by decide⟩, ⟨by decide, by decide⟩, Nat.le_of_ble_eq_true rfl⟩ ⟨rfl, rfl⟩ ?_
                    rintro v w1 p1 t1 ⟨rfl, rfl, rfl⟩
                    dsimp only [Option.toList, List.cons_append, List.nil_append, List.append_nil]
                    refine vv_sub (ws' := [ob_LY a qt qp qo way (ly_add (rd_choiceAt ch (pl_at 2 1 w (h - fr))) (pk_z (rd_choiceAt ch (pl_at 2 1 w (h - fr))) x (y + fr) w (h - fr)) st), ar_I qp cI 256 (ly_add (rd_choiceAt ch (pl_at 2 1 w (h - fr))) (pk_z (rd_choiceAt ch (pl_at 2 1 w (h - fr))) x (y + fr) w (h - fr)) st).2.2.2.1, ar_I qo cI 8 (ly_add (rd_choiceAt ch (pl_at 2 1 w (h - fr))) (pk_z (rd_choiceAt ch (pl_at 2 1 w (h - fr))) x (y + fr) w (h - fr)) st).2.2.2.2, ob_TB qt qs qc K W F, ar_I qc cI 2312 ch]) [2, 3, 4, 0, 1] rfl rfl ?_
                    rw [if_pos (Or.inl c130)] at hlt
                    exact vv_vret hA hw hr d_LY_layTree_158 (by decide) (by decide) ⟨rfl, by rw [← hlt], rfl⟩
                  · skip
                    refine vv_iload d_LY_layTree_133 rfl ?_
                    refine vv_iconst d_LY_layTree_135 ?_
                    refine vv_icmp_ge (tgt := 159) d_LY_layTree_136 (by decide) ⟨by omega, by omega⟩ (fun c136 => ?_) (fun c136 => ?_)
                    · rw [if_neg (by omega)] at hlt
                      have hch3 := hch.2 (by omega)
                      rw [if_neg (by decide)] at hch3
                      refine vv_iload d_LY_layTree_159 rfl ?_
                      refine vv_bipush d_LY_layTree_161 (by decide +kernel) ?_
                      refine vv_isub d_LY_layTree_163 ?_
                      refine vv_istore d_LY_layTree_164 rfl (by decide) ?_
                      dsimp only [List.set]
                      refine vv_aload_n d_LY_layTree_166 rfl ?_
                      refine vv_dup d_LY_layTree_167 rfl ?_
                      refine vv_get d_LY_layTree_168 0 rfl fl_LY_25 rfl ?_
                      refine vv_iconst d_LY_layTree_171 ?_
                      refine vv_iadd d_LY_layTree_172 ?_
                      refine vv_put hw d_LY_layTree_173 0 rfl fp_LY_25 rfl rfl (Nat.le_of_ble_eq_true rfl) ?_
                      dsimp only [List.set]
                      refine vv_aload_n d_LY_layTree_176 rfl ?_
                      refine vv_dup d_LY_layTree_177 rfl ?_
                      refine vv_get d_LY_layTree_178 0 rfl fl_LY_28 rfl ?_
                      refine vv_iload d_LY_layTree_181 rfl ?_
                      refine vv_iadd d_LY_layTree_183 ?_
                      refine vv_put hw d_LY_layTree_184 0 rfl fp_LY_28 rfl rfl (Nat.le_of_ble_eq_true rfl) ?_
                      dsimp only [List.set]
                      refine vv_iload d_LY_layTree_187 rfl ?_
                      refine vv_if_ne (tgt := 212) d_LY_layTree_189 (by decide) ⟨by omega, by omega⟩ (fun c189 => ?_) (fun c189 => ?_)
                      · skip
                        refine vv_aload_n d_LY_layTree_212 rfl ?_
                        refine vv_iload d_LY_layTree_213 rfl ?_
                        refine vv_iload d_LY_layTree_215 rfl ?_
                        refine vv_iload d_LY_layTree_217 rfl ?_
                        refine vv_iload d_LY_layTree_219 rfl ?_
                        refine vv_iconst d_LY_layTree_221 ?_
                        refine vv_iload d_LY_layTree_222 rfl ?_
                        refine vv_iconst d_LY_layTree_224 ?_
                        refine vv_isub d_LY_layTree_225 ?_
                        refine vv_nV hw (wc := [ob_LY a qt qp qo way (ly_cut w st), ar_I qp cI 256 (ly_cut w st).2.2.2.1, ar_I qo cI 8 (ly_cut w st).2.2.2.2, ob_TB qt qs qc K W F, ar_I qc cI 2312 ch]) (wr := []) [] (c_LY_layTree_1_0 (cx_l X) (cx_D X) cI a qt qp qo qs qc way K W F x (y + fr) w ((rd_choiceAt ch (pl_at 2 1 w (h - fr))) - 8) ch (ly_cut w st) hK hC hN (by unfold okp; omega)) lk_LY_55 d_LY_layTree_226 rfl (rc_at 0 rfl rfl rfl) [0, 1, 2, 3, 4] [] ⟨rfl, rfl⟩ ⟨rfl, rfl, by decide⟩ [0] rfl ⟨⟨by decide, by decide⟩, ⟨by decide, by decide⟩, Nat.le_of_ble_eq_true rfl⟩ ⟨rfl, rfl⟩ ?_
                        rintro v w1 p1 t1 ⟨rfl, rfl, rfl⟩
                        dsimp only [Option.toList, List.cons_append, List.nil_append, List.append_nil]
                        refine vv_iload d_LY_layTree_229 rfl ?_
                        refine vv_iload d_LY_layTree_231 rfl ?_
                        refine vv_aload_n d_LY_layTree_233 rfl ?_
                        refine vv_get d_LY_layTree_234 0 rfl fl_LY_31 rfl ?_
                        refine vv_get d_LY_layTree_237 3 rfl fl_LY_72 rfl ?_
                        refine vv_iadd d_LY_layTree_240 ?_
                        refine vv_iadd d_LY_layTree_241 ?_
                        refine vv_istore d_LY_layTree_242 rfl (by decide) ?_
                        dsimp only [List.set]
                        refine vv_iinc d_LY_layTree_244 rfl rfl (by decide) ?_
                        dsimp only [List.set]
                        refine vv_goto (tgt := 32) d_LY_layTree_247 (by decide) ?_
                        exact vv_le (by repeat (first | exact lo_le_nil _ | refine lo_le_cons _ ?_ | refine lo_le_none _ ?_)) (ih (i + 1) _ _ (by omega) (by omega) (LN_lt _ _ _ _ _ _ _ hN) hlt)
                      · exfalso; omega
                    · exfalso; omega
                · exfalso; omega
              · exfalso; omega
            · exfalso; omega
          · exfalso; omega
  show VV X (b_LY_layTree, 17, "SheetTrees$Layout", rm_4) _ 0 0 [(cI, .int)] [ob_LY a qt qp qo way st0, ar_I qp cI 256 st0.2.2.2.1, ar_I qo cI 8 st0.2.2.2.2, ob_TB qt qs qc K W F, ar_I qc cI 2312 ch] [] [some (.ref a), some (.int (iI x)), some (.int (iI y)), some (.int (iI w)), some (.int (iI h)), some (.int (iI 1)), some (.int (iI 2)), none, none, none, none, none, none, none, none, none, none] [] 0
  refine vv_iload d_LY_layTree_0 rfl ?_
  refine vv_if_ne (tgt := 9) d_LY_layTree_2 (by decide) ⟨by omega, by omega⟩ (fun c2 => ?_) (fun c2 => ?_)
  · skip
    refine vv_iload d_LY_layTree_9 rfl ?_
    refine vv_istore d_LY_layTree_11 rfl (by decide) ?_
    dsimp only [List.set]
    refine vv_iload d_LY_layTree_13 rfl ?_
    refine vv_if_ne (tgt := 23) d_LY_layTree_15 (by decide) ⟨by omega, by omega⟩ (fun c15 => ?_) (fun c15 => ?_)
    · skip
      refine vv_iload_n d_LY_layTree_23 rfl ?_
      refine vv_istore d_LY_layTree_24 rfl (by decide) ?_
      dsimp only [List.set]
      refine vv_iconst d_LY_layTree_26 ?_
      refine vv_istore d_LY_layTree_27 rfl (by decide) ?_
      dsimp only [List.set]
      refine vv_iconst d_LY_layTree_29 ?_
      refine vv_istore d_LY_layTree_30 rfl (by decide) ?_
      dsimp only [List.set]
      exact loop 16 0 0 st0 (by omega) (by omega) hN0 rfl
    · exfalso; omega
  · exfalso; omega
set_option maxHeartbeats 4000000 in
set_option maxRecDepth 100000 in
theorem c_LY_layTree_3_0 (l : Launch) (D : va_G) (cI : ClassId) (a qt qp qo qs qc : Nat) (way K W F x y w h : Int) (ch : Nat → Int) (st0 : ly_T) (hK : 0 ≤ K ∧ K ≤ 3) (hC : CI ch) (hN0 : LN st0) (hok : okp x y w h) : CM l y_LY_layTree b_LY_layTree 17 none rm_5 [.ref a, .int (iI x), .int (iI y), .int (iI w), .int (iI h), .int (iI 0), .int (iI 3)] D [(cI, .int)] ([ob_LY a qt qp qo way st0, ar_I qp cI 256 st0.2.2.2.1, ar_I qo cI 8 st0.2.2.2.2, ob_TB qt qs qc K W F, ar_I qc cI 2312 ch] ++ []) (fun r w1 p1 _ => r = none ∧ w1 = [ob_LY a qt qp qo way (lt ch K 3 false x y w h st0), ar_I qp cI 256 (lt ch K 3 false x y w h st0).2.2.2.1, ar_I qo cI 8 (lt ch K 3 false x y w h st0).2.2.2.2, ob_TB qt qs qc K W F, ar_I qc cI 2312 ch] ∧ p1 = []) := by
  refine cm_of (by decide) (Nat.le_of_ble_eq_true rfl) ?_
  intro X sz hl hr hnm hD hA hw
  subst hD
  unfold okp at hok
  have loop : ∀ (n i : Nat) (fr : Int) (st : ly_T), i + n = 16 → 0 ≤ fr ∧ fr ≤ 60 → LN st → lt0_go (lt ch K 2 true) ch K 3 x y w h n fr st = (lt ch K 3 false x y w h st0) → VV X (b_LY_layTree, 17, "SheetTrees$Layout", rm_5) (cq X ([ob_LY a qt qp qo way st0, ar_I qp cI 256 st0.2.2.2.1, ar_I qo cI 8 st0.2.2.2.2, ob_TB qt qs qc K W F, ar_I qc cI 2312 ch] ++ []) sz (fun r w1 p1 _ => r = none ∧ w1 = [ob_LY a qt qp qo way (lt ch K 3 false x y w h st0), ar_I qp cI 256 (lt ch K 3 false x y w h st0).2.2.2.1, ar_I qo cI 8 (lt ch K 3 false x y w h st0).2.2.2.2, ob_TB qt qs qc K W F, ar_I qc cI 2312 ch] ∧ p1 = []) rm_5) 0 0 [(cI, .int)] [ob_LY a qt qp qo way st, ar_I qp cI 256 st.2.2.2.1, ar_I qo cI 8 st.2.2.2.2, ob_TB qt qs qc K W F, ar_I qc cI 2312 ch] [] [some (.ref a), some (.int (iI x)), some (.int (iI y)), some (.int (iI w)), some (.int (iI h)), some (.int (iI 0)), some (.int (iI 3)), some (.int (iI w)), some (.int (iI h)), some (.int (iI fr)), some (.int (iI (i : Int))), none, none, none, none, none, none] [] 32 := by
    intro n
    induction n with
    | zero =>
      intro i fr st hi hfr hN hlt
      unfold lt0_go at hlt
      refine vv_iload d_LY_layTree_32 rfl ?_
      refine vv_bipush d_LY_layTree_34 (by decide +kernel) ?_
      refine vv_icmp_ge (tgt := 250) d_LY_layTree_36 (by decide) ⟨by omega, by omega⟩ (fun c36 => ?_) (fun c36 => ?_)
      · exact vv_vret hA hw hr d_LY_layTree_250 (by decide) (by decide) ⟨rfl, by rw [← hlt], rfl⟩
      · exfalso; omega
    | succ n ih =>
      intro i fr st hi hfr hN hlt
      unfold lt0_go at hlt
      refine vv_iload d_LY_layTree_32 rfl ?_
      refine vv_bipush d_LY_layTree_34 (by decide +kernel) ?_
      refine vv_icmp_ge (tgt := 250) d_LY_layTree_36 (by decide) ⟨by omega, by omega⟩ (fun c36 => ?_) (fun c36 => ?_)
      · exfalso; omega
      · skip
        refine vv_iload d_LY_layTree_39 rfl ?_
        refine vv_iload d_LY_layTree_41 rfl ?_
        refine vv_icmp_ge (tgt := 250) d_LY_layTree_43 (by decide) ⟨by omega, by omega⟩ (fun c43 => ?_) (fun c43 => ?_)
        · rw [if_neg (by omega)] at hlt; exact vv_vret hA hw hr d_LY_layTree_250 (by decide) (by decide) ⟨rfl, by rw [← hlt], rfl⟩
        · rw [if_pos (by omega)] at hlt
          have hch := hC 3 0 (w - fr) h (by omega) (by omega) (by omega) (by omega) (by omega) (by omega) (by omega) (by omega)
          rw [← rd_plc (ch := ch) (s := 3) (d := 0) (w := (w - fr)) (h := h) (by omega) (by omega) (by omega) (by omega)] at hch
          have hch2 : (rd_choiceAt ch (pl_at 3 0 (w - fr) h)) ≤ 24 := by
            by_cases q : 8 < (rd_choiceAt ch (pl_at 3 0 (w - fr) h))
            · have q2 := (hch.2 q).2
              have q3 : (if (0 : Int) = 0 then (w - fr) else h) ≤ 16 := by split <;> omega
              omega
            · omega
          have hpl : -2147483648 ≤ pl_at 3 0 (w - fr) h ∧ pl_at 3 0 (w - fr) h < 2147483648 := by unfold pl_at; omega
          refine vv_iload d_LY_layTree_46 rfl ?_
          refine vv_if_ne (tgt := 58) d_LY_layTree_48 (by decide) ⟨by omega, by omega⟩ (fun c48 => ?_) (fun c48 => ?_)
          · exfalso; omega
          · skip
            refine vv_iload_n d_LY_layTree_51 rfl ?_
            refine vv_iload d_LY_layTree_52 rfl ?_
            refine vv_iadd d_LY_layTree_54 ?_
            refine vv_goto (tgt := 59) d_LY_layTree_55 (by decide) ?_
            refine vv_istore d_LY_layTree_59 rfl (by decide) ?_
            dsimp only [List.set]
            refine vv_iload d_LY_layTree_61 rfl ?_
            refine vv_if_ne (tgt := 70) d_LY_layTree_63 (by decide) ⟨by omega, by omega⟩ (fun c63 => ?_) (fun c63 => ?_)
            · exfalso; omega
            · skip
              refine vv_iload_n d_LY_layTree_66 rfl ?_
              refine vv_goto (tgt := 74) d_LY_layTree_67 (by decide) ?_
              refine vv_istore d_LY_layTree_74 rfl (by decide) ?_
              dsimp only [List.set]
              refine vv_iload d_LY_layTree_76 rfl ?_
              refine vv_if_ne (tgt := 89) d_LY_layTree_78 (by decide) ⟨by omega, by omega⟩ (fun c78 => ?_) (fun c78 => ?_)
              · exfalso; omega
              · skip
                refine vv_iload d_LY_layTree_81 rfl ?_
                refine vv_iload d_LY_layTree_83 rfl ?_
                refine vv_isub d_LY_layTree_85 ?_
                refine vv_goto (tgt := 90) d_LY_layTree_86 (by decide) ?_
                refine vv_istore d_LY_layTree_90 rfl (by decide) ?_
                dsimp only [List.set]
                refine vv_iload d_LY_layTree_92 rfl ?_
                refine vv_if_ne (tgt := 102) d_LY_layTree_94 (by decide) ⟨by omega, by omega⟩ (fun c94 => ?_) (fun c94 => ?_)
                · exfalso; omega
                · skip
                  refine vv_iload d_LY_layTree_97 rfl ?_
                  refine vv_goto (tgt := 107) d_LY_layTree_99 (by decide) ?_
                  refine vv_istore d_LY_layTree_107 rfl (by decide) ?_
                  dsimp only [List.set]
                  refine vv_aload_n d_LY_layTree_109 rfl ?_
                  refine vv_get d_LY_layTree_110 0 rfl fl_LY_31 rfl ?_
                  refine vv_iload d_LY_layTree_113 rfl ?_
                  refine vv_iload d_LY_layTree_115 rfl ?_
                  refine vv_iload d_LY_layTree_117 rfl ?_
                  refine vv_iload d_LY_layTree_119 rfl ?_
                  refine vv_pV (wc := [ob_TB qt qs qc K W F, ar_I qc cI 2312 ch]) (plc := []) [] (c_TB_choiceOf (cx_l X) (cx_D X) cI qt qs qc K W F 3 0 (w - fr) h ch hpl) lk_LY_59 d_LY_layTree_121 rfl (rc_at 3 rfl rfl rfl) [3, 4] ⟨rfl, rfl, Or.inl rfl⟩ [0] rfl ⟨⟨by decide, by decide⟩, ⟨by decide, by decide⟩, Nat.le_of_ble_eq_true rfl⟩ ⟨rfl, rfl⟩ ?_
                  intro v hv
                  subst hv
                  dsimp only [Option.toList, List.cons_append, List.nil_append, List.append_nil]
                  refine vv_istore d_LY_layTree_124 rfl (by decide) ?_
                  dsimp only [List.set]
                  refine vv_iload d_LY_layTree_126 rfl ?_
                  refine vv_bipush d_LY_layTree_128 (by decide +kernel) ?_
                  refine vv_icmp_le (tgt := 139) d_LY_layTree_130 (by decide) ⟨by omega, by omega⟩ (fun c130 => ?_) (fun c130 => ?_)
                  · skip
                    refine vv_aload_n d_LY_layTree_139 rfl ?_
                    refine vv_iload d_LY_layTree_140 rfl ?_
                    refine vv_iload d_LY_layTree_142 rfl ?_
                    refine vv_iload d_LY_layTree_144 rfl ?_
                    refine vv_iload d_LY_layTree_146 rfl ?_
                    refine vv_iload d_LY_layTree_148 rfl ?_
                    refine vv_iload d_LY_layTree_150 rfl ?_
                    refine vv_pS (wc := []) (plc := []) [.int (iI (rd_choiceAt ch (pl_at 3 0 (w - fr) h))), .ref a] (c_PI_of (cx_l X) (cx_D X) (rd_choiceAt ch (pl_at 3 0 (w - fr) h)) (x + fr) y (w - fr) h (by omega) (by omega) (by omega) (by omega) (by omega)) lk_LY_62 d_LY_layTree_152 rfl [] ⟨rfl, rfl, Or.inl rfl⟩ [] rfl ⟨⟨by decide, by decide⟩, ⟨by decide, by decide⟩, Nat.le_of_ble_eq_true rfl⟩ ⟨rfl, rfl⟩ ?_
                    intro v hv
                    subst hv
                    dsimp only [Option.toList, List.cons_append, List.nil_append, List.append_nil]
                    refine vv_nV hw (wc := [ob_LY a qt qp qo way st, ar_I qp cI 256 st.2.2.2.1, ar_I qo cI 8 st.2.2.2.2]) (wr := [ob_TB qt qs qc K W F, ar_I qc cI 2312 ch]) [] (c_LY_addPiece (cx_l X) (cx_D X) cI a qt qp qo way (rd_choiceAt ch (pl_at 3 0 (w - fr) h)) (pk_z (rd_choiceAt ch (pl_at 3 0 (w - fr) h)) (x + fr) y (w - fr) h) st hN (by omega)) lk_LY_68 d_LY_layTree_155 rfl (rc_at 0 rfl rfl rfl) [0, 1, 2] [3, 4] ⟨rfl, rfl⟩ ⟨rfl, rfl, by decide⟩ [0] rfl ⟨⟨by decide, by decide⟩, ⟨by decide, by decide⟩, Nat.le_of_ble_eq_true rfl⟩ ⟨rfl, rfl⟩ ?_
                    rintro v w1 p1 t1 ⟨rfl, rfl, rfl⟩
                    dsimp only [Option.toList, List.cons_append, List.nil_append, List.append_nil]
                    refine vv_sub (ws' := [ob_LY a qt qp qo way (ly_add (rd_choiceAt ch (pl_at 3 0 (w - fr) h)) (pk_z (rd_choiceAt ch (pl_at 3 0 (w - fr) h)) (x + fr) y (w - fr) h) st), ar_I qp cI 256 (ly_add (rd_choiceAt ch (pl_at 3 0 (w - fr) h)) (pk_z (rd_choiceAt ch (pl_at 3 0 (w - fr) h)) (x + fr) y (w - fr) h) st).2.2.2.1, ar_I qo cI 8 (ly_add (rd_choiceAt ch (pl_at 3 0 (w - fr) h)) (pk_z (rd_choiceAt ch (pl_at 3 0 (w - fr) h)) (x + fr) y (w - fr) h) st).2.2.2.2, ob_TB qt qs qc K W F, ar_I qc cI 2312 ch]) [2, 3, 4, 0, 1] rfl rfl ?_
                    rw [if_pos (Or.inl c130)] at hlt
                    exact vv_vret hA hw hr d_LY_layTree_158 (by decide) (by decide) ⟨rfl, by rw [← hlt], rfl⟩
                  · skip
                    refine vv_iload d_LY_layTree_133 rfl ?_
                    refine vv_iconst d_LY_layTree_135 ?_
                    refine vv_icmp_ge (tgt := 159) d_LY_layTree_136 (by decide) ⟨by omega, by omega⟩ (fun c136 => ?_) (fun c136 => ?_)
                    · rw [if_neg (by omega)] at hlt
                      have hch3 := hch.2 (by omega)
                      rw [if_pos rfl] at hch3
                      refine vv_iload d_LY_layTree_159 rfl ?_
                      refine vv_bipush d_LY_layTree_161 (by decide +kernel) ?_
                      refine vv_isub d_LY_layTree_163 ?_
                      refine vv_istore d_LY_layTree_164 rfl (by decide) ?_
                      dsimp only [List.set]
                      refine vv_aload_n d_LY_layTree_166 rfl ?_
                      refine vv_dup d_LY_layTree_167 rfl ?_
                      refine vv_get d_LY_layTree_168 0 rfl fl_LY_25 rfl ?_
                      refine vv_iconst d_LY_layTree_171 ?_
                      refine vv_iadd d_LY_layTree_172 ?_
                      refine vv_put hw d_LY_layTree_173 0 rfl fp_LY_25 rfl rfl (Nat.le_of_ble_eq_true rfl) ?_
                      dsimp only [List.set]
                      refine vv_aload_n d_LY_layTree_176 rfl ?_
                      refine vv_dup d_LY_layTree_177 rfl ?_
                      refine vv_get d_LY_layTree_178 0 rfl fl_LY_28 rfl ?_
                      refine vv_iload d_LY_layTree_181 rfl ?_
                      refine vv_iadd d_LY_layTree_183 ?_
                      refine vv_put hw d_LY_layTree_184 0 rfl fp_LY_28 rfl rfl (Nat.le_of_ble_eq_true rfl) ?_
                      dsimp only [List.set]
                      refine vv_iload d_LY_layTree_187 rfl ?_
                      refine vv_if_ne (tgt := 212) d_LY_layTree_189 (by decide) ⟨by omega, by omega⟩ (fun c189 => ?_) (fun c189 => ?_)
                      · exfalso; omega
                      · skip
                        refine vv_aload_n d_LY_layTree_192 rfl ?_
                        refine vv_iload d_LY_layTree_193 rfl ?_
                        refine vv_iload d_LY_layTree_195 rfl ?_
                        refine vv_iload d_LY_layTree_197 rfl ?_
                        refine vv_iload d_LY_layTree_199 rfl ?_
                        refine vv_iconst d_LY_layTree_201 ?_
                        refine vv_iload d_LY_layTree_202 rfl ?_
                        refine vv_iconst d_LY_layTree_204 ?_
                        refine vv_isub d_LY_layTree_205 ?_
                        refine vv_nV hw (wc := [ob_LY a qt qp qo way (ly_cut h st), ar_I qp cI 256 (ly_cut h st).2.2.2.1, ar_I qo cI 8 (ly_cut h st).2.2.2.2, ob_TB qt qs qc K W F, ar_I qc cI 2312 ch]) (wr := []) [] (c_LY_layTree_2_1 (cx_l X) (cx_D X) cI a qt qp qo qs qc way K W F (x + fr) y ((rd_choiceAt ch (pl_at 3 0 (w - fr) h)) - 8) h ch (ly_cut h st) hK hC hN (by unfold okp; omega)) lk_LY_55 d_LY_layTree_206 rfl (rc_at 0 rfl rfl rfl) [0, 1, 2, 3, 4] [] ⟨rfl, rfl⟩ ⟨rfl, rfl, by decide⟩ [0] rfl ⟨⟨by decide, by decide⟩, ⟨by decide, by decide⟩, Nat.le_of_ble_eq_true rfl⟩ ⟨rfl, rfl⟩ ?_
                        rintro v w1 p1 t1 ⟨rfl, rfl, rfl⟩
                        dsimp only [Option.toList, List.cons_append, List.nil_append, List.append_nil]
                        refine vv_goto (tgt := 229) d_LY_layTree_209 (by decide) ?_
                        refine vv_iload d_LY_layTree_229 rfl ?_
                        refine vv_iload d_LY_layTree_231 rfl ?_
                        refine vv_aload_n d_LY_layTree_233 rfl ?_
                        refine vv_get d_LY_layTree_234 0 rfl fl_LY_31 rfl ?_
                        refine vv_get d_LY_layTree_237 3 rfl fl_LY_72 rfl ?_
                        refine vv_iadd d_LY_layTree_240 ?_
                        refine vv_iadd d_LY_layTree_241 ?_
                        refine vv_istore d_LY_layTree_242 rfl (by decide) ?_
                        dsimp only [List.set]
                        refine vv_iinc d_LY_layTree_244 rfl rfl (by decide) ?_
                        dsimp only [List.set]
                        refine vv_goto (tgt := 32) d_LY_layTree_247 (by decide) ?_
                        exact vv_le (by repeat (first | exact lo_le_nil _ | refine lo_le_cons _ ?_ | refine lo_le_none _ ?_)) (ih (i + 1) _ _ (by omega) (by omega) (LN_lt _ _ _ _ _ _ _ hN) hlt)
                    · exfalso; omega
  show VV X (b_LY_layTree, 17, "SheetTrees$Layout", rm_5) _ 0 0 [(cI, .int)] [ob_LY a qt qp qo way st0, ar_I qp cI 256 st0.2.2.2.1, ar_I qo cI 8 st0.2.2.2.2, ob_TB qt qs qc K W F, ar_I qc cI 2312 ch] [] [some (.ref a), some (.int (iI x)), some (.int (iI y)), some (.int (iI w)), some (.int (iI h)), some (.int (iI 0)), some (.int (iI 3)), none, none, none, none, none, none, none, none, none, none] [] 0
  refine vv_iload d_LY_layTree_0 rfl ?_
  refine vv_if_ne (tgt := 9) d_LY_layTree_2 (by decide) ⟨by omega, by omega⟩ (fun c2 => ?_) (fun c2 => ?_)
  · exfalso; omega
  · skip
    refine vv_iload_n d_LY_layTree_5 rfl ?_
    refine vv_goto (tgt := 11) d_LY_layTree_6 (by decide) ?_
    refine vv_istore d_LY_layTree_11 rfl (by decide) ?_
    dsimp only [List.set]
    refine vv_iload d_LY_layTree_13 rfl ?_
    refine vv_if_ne (tgt := 23) d_LY_layTree_15 (by decide) ⟨by omega, by omega⟩ (fun c15 => ?_) (fun c15 => ?_)
    · exfalso; omega
    · skip
      refine vv_iload d_LY_layTree_18 rfl ?_
      refine vv_goto (tgt := 24) d_LY_layTree_20 (by decide) ?_
      refine vv_istore d_LY_layTree_24 rfl (by decide) ?_
      dsimp only [List.set]
      refine vv_iconst d_LY_layTree_26 ?_
      refine vv_istore d_LY_layTree_27 rfl (by decide) ?_
      dsimp only [List.set]
      refine vv_iconst d_LY_layTree_29 ?_
      refine vv_istore d_LY_layTree_30 rfl (by decide) ?_
      dsimp only [List.set]
      exact loop 16 0 0 st0 (by omega) (by omega) hN0 rfl
set_option maxHeartbeats 4000000 in
set_option maxRecDepth 100000 in
theorem c_LY_layTree_3_1 (l : Launch) (D : va_G) (cI : ClassId) (a qt qp qo qs qc : Nat) (way K W F x y w h : Int) (ch : Nat → Int) (st0 : ly_T) (hK : 0 ≤ K ∧ K ≤ 3) (hC : CI ch) (hN0 : LN st0) (hok : okp x y w h) : CM l y_LY_layTree b_LY_layTree 17 none rm_5 [.ref a, .int (iI x), .int (iI y), .int (iI w), .int (iI h), .int (iI 1), .int (iI 3)] D [(cI, .int)] ([ob_LY a qt qp qo way st0, ar_I qp cI 256 st0.2.2.2.1, ar_I qo cI 8 st0.2.2.2.2, ob_TB qt qs qc K W F, ar_I qc cI 2312 ch] ++ []) (fun r w1 p1 _ => r = none ∧ w1 = [ob_LY a qt qp qo way (lt ch K 3 true x y w h st0), ar_I qp cI 256 (lt ch K 3 true x y w h st0).2.2.2.1, ar_I qo cI 8 (lt ch K 3 true x y w h st0).2.2.2.2, ob_TB qt qs qc K W F, ar_I qc cI 2312 ch] ∧ p1 = []) := by
  refine cm_of (by decide) (Nat.le_of_ble_eq_true rfl) ?_
  intro X sz hl hr hnm hD hA hw
  subst hD
  unfold okp at hok
  have loop : ∀ (n i : Nat) (fr : Int) (st : ly_T), i + n = 16 → 0 ≤ fr ∧ fr ≤ 60 → LN st → lt1_go (lt ch K 2 false) ch K 3 x y w h n fr st = (lt ch K 3 true x y w h st0) → VV X (b_LY_layTree, 17, "SheetTrees$Layout", rm_5) (cq X ([ob_LY a qt qp qo way st0, ar_I qp cI 256 st0.2.2.2.1, ar_I qo cI 8 st0.2.2.2.2, ob_TB qt qs qc K W F, ar_I qc cI 2312 ch] ++ []) sz (fun r w1 p1 _ => r = none ∧ w1 = [ob_LY a qt qp qo way (lt ch K 3 true x y w h st0), ar_I qp cI 256 (lt ch K 3 true x y w h st0).2.2.2.1, ar_I qo cI 8 (lt ch K 3 true x y w h st0).2.2.2.2, ob_TB qt qs qc K W F, ar_I qc cI 2312 ch] ∧ p1 = []) rm_5) 0 0 [(cI, .int)] [ob_LY a qt qp qo way st, ar_I qp cI 256 st.2.2.2.1, ar_I qo cI 8 st.2.2.2.2, ob_TB qt qs qc K W F, ar_I qc cI 2312 ch] [] [some (.ref a), some (.int (iI x)), some (.int (iI y)), some (.int (iI w)), some (.int (iI h)), some (.int (iI 1)), some (.int (iI 3)), some (.int (iI h)), some (.int (iI w)), some (.int (iI fr)), some (.int (iI (i : Int))), none, none, none, none, none, none] [] 32 := by
    intro n
    induction n with
    | zero =>
      intro i fr st hi hfr hN hlt
      unfold lt1_go at hlt
      refine vv_iload d_LY_layTree_32 rfl ?_
      refine vv_bipush d_LY_layTree_34 (by decide +kernel) ?_
      refine vv_icmp_ge (tgt := 250) d_LY_layTree_36 (by decide) ⟨by omega, by omega⟩ (fun c36 => ?_) (fun c36 => ?_)
      · exact vv_vret hA hw hr d_LY_layTree_250 (by decide) (by decide) ⟨rfl, by rw [← hlt], rfl⟩
      · exfalso; omega
    | succ n ih =>
      intro i fr st hi hfr hN hlt
      unfold lt1_go at hlt
      refine vv_iload d_LY_layTree_32 rfl ?_
      refine vv_bipush d_LY_layTree_34 (by decide +kernel) ?_
      refine vv_icmp_ge (tgt := 250) d_LY_layTree_36 (by decide) ⟨by omega, by omega⟩ (fun c36 => ?_) (fun c36 => ?_)
      · exfalso; omega
      · skip
        refine vv_iload d_LY_layTree_39 rfl ?_
        refine vv_iload d_LY_layTree_41 rfl ?_
        refine vv_icmp_ge (tgt := 250) d_LY_layTree_43 (by decide) ⟨by omega, by omega⟩ (fun c43 => ?_) (fun c43 => ?_)
        · rw [if_neg (by omega)] at hlt; exact vv_vret hA hw hr d_LY_layTree_250 (by decide) (by decide) ⟨rfl, by rw [← hlt], rfl⟩
        · rw [if_pos (by omega)] at hlt
          have hch := hC 3 1 w (h - fr) (by omega) (by omega) (by omega) (by omega) (by omega) (by omega) (by omega) (by omega)
          rw [← rd_plc (ch := ch) (s := 3) (d := 1) (w := w) (h := (h - fr)) (by omega) (by omega) (by omega) (by omega)] at hch
          have hch2 : (rd_choiceAt ch (pl_at 3 1 w (h - fr))) ≤ 24 := by
            by_cases q : 8 < (rd_choiceAt ch (pl_at 3 1 w (h - fr)))
            · have q2 := (hch.2 q).2
              have q3 : (if (1 : Int) = 0 then w else (h - fr)) ≤ 16 := by split <;> omega
              omega
            · omega
          have hpl : -2147483648 ≤ pl_at 3 1 w (h - fr) ∧ pl_at 3 1 w (h - fr) < 2147483648 := by unfold pl_at; omega
          refine vv_iload d_LY_layTree_46 rfl ?_
          refine vv_if_ne (tgt := 58) d_LY_layTree_48 (by decide) ⟨by omega, by omega⟩ (fun c48 => ?_) (fun c48 => ?_)
          · skip
            refine vv_iload_n d_LY_layTree_58 rfl ?_
            refine vv_istore d_LY_layTree_59 rfl (by decide) ?_
            dsimp only [List.set]
            refine vv_iload d_LY_layTree_61 rfl ?_
            refine vv_if_ne (tgt := 70) d_LY_layTree_63 (by decide) ⟨by omega, by omega⟩ (fun c63 => ?_) (fun c63 => ?_)
            · skip
              refine vv_iload_n d_LY_layTree_70 rfl ?_
              refine vv_iload d_LY_layTree_71 rfl ?_
              refine vv_iadd d_LY_layTree_73 ?_
              refine vv_istore d_LY_layTree_74 rfl (by decide) ?_
              dsimp only [List.set]
              refine vv_iload d_LY_layTree_76 rfl ?_
              refine vv_if_ne (tgt := 89) d_LY_layTree_78 (by decide) ⟨by omega, by omega⟩ (fun c78 => ?_) (fun c78 => ?_)
              · skip
                refine vv_iload_n d_LY_layTree_89 rfl ?_
                refine vv_istore d_LY_layTree_90 rfl (by decide) ?_
                dsimp only [List.set]
                refine vv_iload d_LY_layTree_92 rfl ?_
                refine vv_if_ne (tgt := 102) d_LY_layTree_94 (by decide) ⟨by omega, by omega⟩ (fun c94 => ?_) (fun c94 => ?_)
                · skip
                  refine vv_iload d_LY_layTree_102 rfl ?_
                  refine vv_iload d_LY_layTree_104 rfl ?_
                  refine vv_isub d_LY_layTree_106 ?_
                  refine vv_istore d_LY_layTree_107 rfl (by decide) ?_
                  dsimp only [List.set]
                  refine vv_aload_n d_LY_layTree_109 rfl ?_
                  refine vv_get d_LY_layTree_110 0 rfl fl_LY_31 rfl ?_
                  refine vv_iload d_LY_layTree_113 rfl ?_
                  refine vv_iload d_LY_layTree_115 rfl ?_
                  refine vv_iload d_LY_layTree_117 rfl ?_
                  refine vv_iload d_LY_layTree_119 rfl ?_
                  refine vv_pV (wc := [ob_TB qt qs qc K W F, ar_I qc cI 2312 ch]) (plc := []) [] (c_TB_choiceOf (cx_l X) (cx_D X) cI qt qs qc K W F 3 1 w (h - fr) ch hpl) lk_LY_59 d_LY_layTree_121 rfl (rc_at 3 rfl rfl rfl) [3, 4] ⟨rfl, rfl, Or.inl rfl⟩ [0] rfl ⟨⟨by decide, by decide⟩, ⟨by decide, by decide⟩, Nat.le_of_ble_eq_true rfl⟩ ⟨rfl, rfl⟩ ?_
                  intro v hv
                  subst hv
                  dsimp only [Option.toList, List.cons_append, List.nil_append, List.append_nil]
                  refine vv_istore d_LY_layTree_124 rfl (by decide) ?_
                  dsimp only [List.set]
                  refine vv_iload d_LY_layTree_126 rfl ?_
                  refine vv_bipush d_LY_layTree_128 (by decide +kernel) ?_
                  refine vv_icmp_le (tgt := 139) d_LY_layTree_130 (by decide) ⟨by omega, by omega⟩ (fun c130 => ?_) (fun c130 => ?_)
                  · skip
                    refine vv_aload_n d_LY_layTree_139 rfl ?_
                    refine vv_iload d_LY_layTree_140 rfl ?_
                    refine vv_iload d_LY_layTree_142 rfl ?_
                    refine vv_iload d_LY_layTree_144 rfl ?_
                    refine vv_iload d_LY_layTree_146 rfl ?_
                    refine vv_iload d_LY_layTree_148 rfl ?_
                    refine vv_iload d_LY_layTree_150 rfl ?_
                    refine vv_pS (wc := []) (plc := []) [.int (iI (rd_choiceAt ch (pl_at 3 1 w (h - fr)))), .ref a] (c_PI_of (cx_l X) (cx_D X) (rd_choiceAt ch (pl_at 3 1 w (h - fr))) x (y + fr) w (h - fr) (by omega) (by omega) (by omega) (by omega) (by omega)) lk_LY_62 d_LY_layTree_152 rfl [] ⟨rfl, rfl, Or.inl rfl⟩ [] rfl ⟨⟨by decide, by decide⟩, ⟨by decide, by decide⟩, Nat.le_of_ble_eq_true rfl⟩ ⟨rfl, rfl⟩ ?_
                    intro v hv
                    subst hv
                    dsimp only [Option.toList, List.cons_append, List.nil_append, List.append_nil]
                    refine vv_nV hw (wc := [ob_LY a qt qp qo way st, ar_I qp cI 256 st.2.2.2.1, ar_I qo cI 8 st.2.2.2.2]) (wr := [ob_TB qt qs qc K W F, ar_I qc cI 2312 ch]) [] (c_LY_addPiece (cx_l X) (cx_D X) cI a qt qp qo way (rd_choiceAt ch (pl_at 3 1 w (h - fr))) (pk_z (rd_choiceAt ch (pl_at 3 1 w (h - fr))) x (y + fr) w (h - fr)) st hN (by omega)) lk_LY_68 d_LY_layTree_155 rfl (rc_at 0 rfl rfl rfl) [0, 1, 2] [3, 4] ⟨rfl, rfl⟩ ⟨rfl, rfl, by decide⟩ [0] rfl ⟨⟨by decide, by decide⟩, ⟨by decide, by decide⟩, Nat.le_of_ble_eq_true rfl⟩ ⟨rfl, rfl⟩ ?_
                    rintro v w1 p1 t1 ⟨rfl, rfl, rfl⟩
                    dsimp only [Option.toList, List.cons_append, List.nil_append, List.append_nil]
                    refine vv_sub (ws' := [ob_LY a qt qp qo way (ly_add (rd_choiceAt ch (pl_at 3 1 w (h - fr))) (pk_z (rd_choiceAt ch (pl_at 3 1 w (h - fr))) x (y + fr) w (h - fr)) st), ar_I qp cI 256 (ly_add (rd_choiceAt ch (pl_at 3 1 w (h - fr))) (pk_z (rd_choiceAt ch (pl_at 3 1 w (h - fr))) x (y + fr) w (h - fr)) st).2.2.2.1, ar_I qo cI 8 (ly_add (rd_choiceAt ch (pl_at 3 1 w (h - fr))) (pk_z (rd_choiceAt ch (pl_at 3 1 w (h - fr))) x (y + fr) w (h - fr)) st).2.2.2.2, ob_TB qt qs qc K W F, ar_I qc cI 2312 ch]) [2, 3, 4, 0, 1] rfl rfl ?_
                    rw [if_pos (Or.inl c130)] at hlt
                    exact vv_vret hA hw hr d_LY_layTree_158 (by decide) (by decide) ⟨rfl, by rw [← hlt], rfl⟩
                  · skip
                    refine vv_iload d_LY_layTree_133 rfl ?_
                    refine vv_iconst d_LY_layTree_135 ?_
                    refine vv_icmp_ge (tgt := 159) d_LY_layTree_136 (by decide) ⟨by omega, by omega⟩ (fun c136 => ?_) (fun c136 => ?_)
                    · rw [if_neg (by omega)] at hlt
                      have hch3 := hch.2 (by omega)
                      rw [if_neg (by decide)] at hch3
                      refine vv_iload d_LY_layTree_159 rfl ?_
                      refine vv_bipush d_LY_layTree_161 (by decide +kernel) ?_
                      refine vv_isub d_LY_layTree_163 ?_
                      refine vv_istore d_LY_layTree_164 rfl (by decide) ?_
                      dsimp only [List.set]
                      refine vv_aload_n d_LY_layTree_166 rfl ?_
                      refine vv_dup d_LY_layTree_167 rfl ?_
                      refine vv_get d_LY_layTree_168 0 rfl fl_LY_25 rfl ?_
                      refine vv_iconst d_LY_layTree_171 ?_
                      refine vv_iadd d_LY_layTree_172 ?_
                      refine vv_put hw d_LY_layTree_173 0 rfl fp_LY_25 rfl rfl (Nat.le_of_ble_eq_true rfl) ?_
                      dsimp only [List.set]
                      refine vv_aload_n d_LY_layTree_176 rfl ?_
                      refine vv_dup d_LY_layTree_177 rfl ?_
                      refine vv_get d_LY_layTree_178 0 rfl fl_LY_28 rfl ?_
                      refine vv_iload d_LY_layTree_181 rfl ?_
                      refine vv_iadd d_LY_layTree_183 ?_
                      refine vv_put hw d_LY_layTree_184 0 rfl fp_LY_28 rfl rfl (Nat.le_of_ble_eq_true rfl) ?_
                      dsimp only [List.set]
                      refine vv_iload d_LY_layTree_187 rfl ?_
                      refine vv_if_ne (tgt := 212) d_LY_layTree_189 (by decide) ⟨by omega, by omega⟩ (fun c189 => ?_) (fun c189 => ?_)
                      · skip
                        refine vv_aload_n d_LY_layTree_212 rfl ?_
                        refine vv_iload d_LY_layTree_213 rfl ?_
                        refine vv_iload d_LY_layTree_215 rfl ?_
                        refine vv_iload d_LY_layTree_217 rfl ?_
                        refine vv_iload d_LY_layTree_219 rfl ?_
                        refine vv_iconst d_LY_layTree_221 ?_
                        refine vv_iload d_LY_layTree_222 rfl ?_
                        refine vv_iconst d_LY_layTree_224 ?_
                        refine vv_isub d_LY_layTree_225 ?_
                        refine vv_nV hw (wc := [ob_LY a qt qp qo way (ly_cut w st), ar_I qp cI 256 (ly_cut w st).2.2.2.1, ar_I qo cI 8 (ly_cut w st).2.2.2.2, ob_TB qt qs qc K W F, ar_I qc cI 2312 ch]) (wr := []) [] (c_LY_layTree_2_0 (cx_l X) (cx_D X) cI a qt qp qo qs qc way K W F x (y + fr) w ((rd_choiceAt ch (pl_at 3 1 w (h - fr))) - 8) ch (ly_cut w st) hK hC hN (by unfold okp; omega)) lk_LY_55 d_LY_layTree_226 rfl (rc_at 0 rfl rfl rfl) [0, 1, 2, 3, 4] [] ⟨rfl, rfl⟩ ⟨rfl, rfl, by decide⟩ [0] rfl ⟨⟨by decide, by decide⟩, ⟨by decide, by decide⟩, Nat.le_of_ble_eq_true rfl⟩ ⟨rfl, rfl⟩ ?_
                        rintro v w1 p1 t1 ⟨rfl, rfl, rfl⟩
                        dsimp only [Option.toList, List.cons_append, List.nil_append, List.append_nil]
                        refine vv_iload d_LY_layTree_229 rfl ?_
                        refine vv_iload d_LY_layTree_231 rfl ?_
                        refine vv_aload_n d_LY_layTree_233 rfl ?_
                        refine vv_get d_LY_layTree_234 0 rfl fl_LY_31 rfl ?_
                        refine vv_get d_LY_layTree_237 3 rfl fl_LY_72 rfl ?_
                        refine vv_iadd d_LY_layTree_240 ?_
                        refine vv_iadd d_LY_layTree_241 ?_
                        refine vv_istore d_LY_layTree_242 rfl (by decide) ?_
                        dsimp only [List.set]
                        refine vv_iinc d_LY_layTree_244 rfl rfl (by decide) ?_
                        dsimp only [List.set]
                        refine vv_goto (tgt := 32) d_LY_layTree_247 (by decide) ?_
                        exact vv_le (by repeat (first | exact lo_le_nil _ | refine lo_le_cons _ ?_ | refine lo_le_none _ ?_)) (ih (i + 1) _ _ (by omega) (by omega) (LN_lt _ _ _ _ _ _ _ hN) hlt)
                      · exfalso; omega
                    · exfalso; omega
                · exfalso; omega
              · exfalso; omega
            · exfalso; omega
          · exfalso; omega
  show VV X (b_LY_layTree, 17, "SheetTrees$Layout", rm_5) _ 0 0 [(cI, .int)] [ob_LY a qt qp qo way st0, ar_I qp cI 256 st0.2.2.2.1, ar_I qo cI 8 st0.2.2.2.2, ob_TB qt qs qc K W F, ar_I qc cI 2312 ch] [] [some (.ref a), some (.int (iI x)), some (.int (iI y)), some (.int (iI w)), some (.int (iI h)), some (.int (iI 1)), some (.int (iI 3)), none, none, none, none, none, none, none, none, none, none] [] 0
  refine vv_iload d_LY_layTree_0 rfl ?_
  refine vv_if_ne (tgt := 9) d_LY_layTree_2 (by decide) ⟨by omega, by omega⟩ (fun c2 => ?_) (fun c2 => ?_)
  · skip
    refine vv_iload d_LY_layTree_9 rfl ?_
    refine vv_istore d_LY_layTree_11 rfl (by decide) ?_
    dsimp only [List.set]
    refine vv_iload d_LY_layTree_13 rfl ?_
    refine vv_if_ne (tgt := 23) d_LY_layTree_15 (by decide) ⟨by omega, by omega⟩ (fun c15 => ?_) (fun c15 => ?_)
    · skip
      refine vv_iload_n d_LY_layTree_23 rfl ?_
      refine vv_istore d_LY_layTree_24 rfl (by decide) ?_
      dsimp only [List.set]
      refine vv_iconst d_LY_layTree_26 ?_
      refine vv_istore d_LY_layTree_27 rfl (by decide) ?_
      dsimp only [List.set]
      refine vv_iconst d_LY_layTree_29 ?_
      refine vv_istore d_LY_layTree_30 rfl (by decide) ?_
      dsimp only [List.set]
      exact loop 16 0 0 st0 (by omega) (by omega) hN0 rfl
    · exfalso; omega
  · exfalso; omega
end
section
/-! a contract in more room; Layout.layTree for any stage and way; Layout.lay -/
theorem room_le {s : State} {pl : Platform} {r r' : Room} (h : r.frames ≤ r'.frames ∧ r.locals ≤ r'.locals ∧ r.cells = r'.cells ∧ r.slots = r'.slots) (hr : s.hasRoom pl r' = true) : s.hasRoom pl r = true := by
  unfold State.hasRoom at *
  simp only [Bool.and_eq_true, decide_eq_true_eq] at *
  obtain ⟨⟨⟨⟨a1, a2⟩, a3⟩, a4⟩, a5⟩ := hr
  exact ⟨⟨⟨⟨by omega, by omega, by omega, by omega, by omega, a2.2.2.2.2⟩, by omega⟩, by omega⟩, a5⟩
theorem met_mono {l : Launch} {y : MethodName} {ws : List Cond} {rm rm' : Room} {Pc : Array Value → State → Prop} {Qc : Array Value → State → Outcome → State → Prop} {mc ms : Nat} {free : Addr → Prop} (h : rm.frames ≤ rm'.frames ∧ rm.locals ≤ rm'.locals ∧ rm.cells = rm'.cells ∧ rm.slots = rm'.slots) (hM : Met l y ws rm Pc Qc mc ms free) : Met l y ws rm' Pc Qc mc ms free := by
  intro p e ha hc hk s m args below hf happ hP hK
  refine hM p e ha hc hk s m args below hf ?_ hP hK
  obtain ⟨h1, h2, h3, h4, h5, h6, h7, h8⟩ := (Spec.appliesLoose_iff hf).mp happ
  exact (Spec.appliesLoose_iff hf).mpr ⟨h1, h2, h3, h4, h5, h6, room_le h h7, h8⟩
theorem cm_mono {l : Launch} {y : MethodName} {b : ByteArray} {nL : Nat} {rt : Option FieldType} {rm rm' : Room} {av : List Value} {D : va_G} {tys : List (ClassId × FieldType)} {ws : va_W} {post : Option Value → va_W → va_W → List (ClassId × FieldType) → Prop} (h : rm.frames ≤ rm'.frames ∧ rm.locals ≤ rm'.locals ∧ rm.cells = rm'.cells ∧ rm.slots = rm'.slots) (hM : CM l y b nL rt rm av D tys ws post) : CM l y b nL rt rm' av D tys ws post := by
  intro sz
  have h1 := met_mono h (hM sz)
  rw [h.2.2.1, h.2.2.2] at h1
  exact h1
abbrev bz (d : Bool) : Int := if d = true then 1 else 0
set_option maxHeartbeats 4000000 in
set_option maxRecDepth 100000 in
theorem c_LY_layTree (l : Launch) (D : va_G) (cI : ClassId) (a qt qp qo qs qc : Nat) (way K W F x y w h : Int) (ch : Nat → Int) (st0 : ly_T) (hK : 0 ≤ K ∧ K ≤ 3) (hC : CI ch) (hN0 : LN st0) (hok : okp x y w h) (s : Nat) (hs : s ≤ 3) (d : Bool) (sI dI : Int) (h1 : sI = (s : Int)) (h2 : dI = bz d) : CM l y_LY_layTree b_LY_layTree 17 none rm_5 [.ref a, .int (iI x), .int (iI y), .int (iI w), .int (iI h), .int (iI dI), .int (iI sI)] D [(cI, .int)] ([ob_LY a qt qp qo way st0, ar_I qp cI 256 st0.2.2.2.1, ar_I qo cI 8 st0.2.2.2.2, ob_TB qt qs qc K W F, ar_I qc cI 2312 ch] ++ []) (fun r w1 p1 _ => r = none ∧ w1 = [ob_LY a qt qp qo way (lt ch K s d x y w h st0), ar_I qp cI 256 (lt ch K s d x y w h st0).2.2.2.1, ar_I qo cI 8 (lt ch K s d x y w h st0).2.2.2.2, ob_TB qt qs qc K W F, ar_I qc cI 2312 ch] ∧ p1 = []) := by
  rcases (show s = 0 ∨ s = 1 ∨ s = 2 ∨ s = 3 by omega) with rfl | rfl | rfl | rfl <;> cases d
  · have e1 : sI = 0 := h1
    have e2 : dI = 0 := h2
    subst e1; subst e2
    exact cm_mono (rm := rm_2) ⟨by decide, by decide, rfl, rfl⟩ (c_LY_layTree_0_0 l D cI a qt qp qo qs qc way K W F x y w h ch st0 hK hC hN0 hok)
  · have e1 : sI = 0 := h1
    have e2 : dI = 1 := h2
    subst e1; subst e2
    exact cm_mono (rm := rm_2) ⟨by decide, by decide, rfl, rfl⟩ (c_LY_layTree_0_1 l D cI a qt qp qo qs qc way K W F x y w h ch st0 hK hC hN0 hok)
  · have e1 : sI = 1 := h1
    have e2 : dI = 0 := h2
    subst e1; subst e2
    exact cm_mono (rm := rm_3) ⟨by decide, by decide, rfl, rfl⟩ (c_LY_layTree_1_0 l D cI a qt qp qo qs qc way K W F x y w h ch st0 hK hC hN0 hok)
  · have e1 : sI = 1 := h1
    have e2 : dI = 1 := h2
    subst e1; subst e2
    exact cm_mono (rm := rm_3) ⟨by decide, by decide, rfl, rfl⟩ (c_LY_layTree_1_1 l D cI a qt qp qo qs qc way K W F x y w h ch st0 hK hC hN0 hok)
  · have e1 : sI = 2 := h1
    have e2 : dI = 0 := h2
    subst e1; subst e2
    exact cm_mono (rm := rm_4) ⟨by decide, by decide, rfl, rfl⟩ (c_LY_layTree_2_0 l D cI a qt qp qo qs qc way K W F x y w h ch st0 hK hC hN0 hok)
  · have e1 : sI = 2 := h1
    have e2 : dI = 1 := h2
    subst e1; subst e2
    exact cm_mono (rm := rm_4) ⟨by decide, by decide, rfl, rfl⟩ (c_LY_layTree_2_1 l D cI a qt qp qo qs qc way K W F x y w h ch st0 hK hC hN0 hok)
  · have e1 : sI = 3 := h1
    have e2 : dI = 0 := h2
    subst e1; subst e2
    exact cm_mono (rm := rm_5) ⟨by decide, by decide, rfl, rfl⟩ (c_LY_layTree_3_0 l D cI a qt qp qo qs qc way K W F x y w h ch st0 hK hC hN0 hok)
  · have e1 : sI = 3 := h1
    have e2 : dI = 1 := h2
    subst e1; subst e2
    exact cm_mono (rm := rm_5) ⟨by decide, by decide, rfl, rfl⟩ (c_LY_layTree_3_1 l D cI a qt qp qo qs qc way K W F x y w h ch st0 hK hC hN0 hok)
/-- the first way of a sheet, and its layout -/
def lyw (sc : Nat → Int) (S : Nat) (w h : Int) : Bool := decide (rd_scoreAt sc (pl_at S 0 w h) < rd_scoreAt sc (pl_at S 1 w h))
def ly0 (st : ly_T) : ly_T := (0, 0, 0, st.2.2.2.1, fun j => if j < 8 then 0 else st.2.2.2.2 j)
theorem LN_0 {st : ly_T} : LN (ly0 st) := ⟨Int.le_refl 0, (by decide : (0 : Int) ≤ 256)⟩
def lay (T : tp_T) (K : Int) (S : Nat) (w h : Int) (st : ly_T) : ly_T := lt T.2 K S (lyw T.1 S w h) 0 0 w h (ly0 st)
set_option maxHeartbeats 4000000 in
set_option maxRecDepth 100000 in
theorem c_LY_lay (l : Launch) (D : va_G) (cI : ClassId) (a qt qp qo qs qc b : Nat) (way K W F : Int) (T : tp_T) (st : ly_T) (L : List Nat) (f : Nat → va_E) (r : pa_T) (S : Nat) (hS : S ≤ 3) (hK : 0 ≤ K ∧ K ≤ 3) (hC : CI T.2) (hT : TI T.1) (hin : b ∈ L) (hat : f b = ob_SH r) (hr1 : 1 ≤ r.1 ∧ r.1 ≤ 16) (hr2 : 1 ≤ r.2.1 ∧ r.2.1 ≤ 16) : CM l y_LY_lay b_LY_lay 5 none rm_6 [.ref a, .ref b, .int (iI (S : Int))] D [(cI, .int)] ([ob_LY a qt qp qo way st, ar_I qp cI 256 st.2.2.2.1, ar_I qo cI 8 st.2.2.2.2, ob_TB qt qs qc K W F, ar_I qs cI 2312 T.1, ar_I qc cI 2312 T.2] ++ va_pl L f) (fun v w1 p1 _ => v = none ∧ w1 = [ob_LY a qt qp qo (bz (lyw T.1 S r.1 r.2.1)) (lay T K S r.1 r.2.1 st), ar_I qp cI 256 (lay T K S r.1 r.2.1 st).2.2.2.1, ar_I qo cI 8 (lay T K S r.1 r.2.1 st).2.2.2.2, ob_TB qt qs qc K W F, ar_I qs cI 2312 T.1, ar_I qc cI 2312 T.2] ∧ p1 = va_pl L f) := by
  refine cm_of (by decide) (Nat.le_of_ble_eq_true rfl) ?_
  intro X sz hl hr hnm hD hA hw
  subst hD
  have hp0 : -2147483648 ≤ pl_at S 0 r.1 r.2.1 ∧ pl_at S 0 r.1 r.2.1 < 2147483648 := by unfold pl_at; omega
  have hp1 : -2147483648 ≤ pl_at S 1 r.1 r.2.1 ∧ pl_at S 1 r.1 r.2.1 < 2147483648 := by unfold pl_at; omega
  have hb0 := TI_bd hT (pl_at S 0 r.1 r.2.1)
  have hb1 := TI_bd hT (pl_at S 1 r.1 r.2.1)
  show VV X (b_LY_lay, 5, "SheetTrees$Layout", rm_6) _ 0 0 [(cI, .int)] [ob_LY a qt qp qo way st, ar_I qp cI 256 st.2.2.2.1, ar_I qo cI 8 st.2.2.2.2, ob_TB qt qs qc K W F, ar_I qs cI 2312 T.1, ar_I qc cI 2312 T.2] (va_pl L f) [some (.ref a), some (.ref b), some (.int (iI (S : Int))), none, none] [] 0
  refine vv_aload_n d_LY_lay_0 rfl ?_
  refine vv_iconst d_LY_lay_1 ?_
  refine vv_put hw d_LY_lay_2 0 rfl fp_LY_18 rfl rfl (Nat.le_of_ble_eq_true rfl) ?_
  dsimp only [List.set]
  refine vv_aload_n d_LY_lay_5 rfl ?_
  refine vv_iconst d_LY_lay_6 ?_
  refine vv_put hw d_LY_lay_7 0 rfl fp_LY_25 rfl rfl (Nat.le_of_ble_eq_true rfl) ?_
  dsimp only [List.set]
  refine vv_aload_n d_LY_lay_10 rfl ?_
  refine vv_iconst d_LY_lay_11 ?_
  refine vv_put hw d_LY_lay_12 0 rfl fp_LY_28 rfl rfl (Nat.le_of_ble_eq_true rfl) ?_
  dsimp only [List.set]
  refine vv_aload_n d_LY_lay_15 rfl ?_
  refine vv_get d_LY_lay_16 0 rfl fl_LY_15 rfl ?_
  refine vv_iconst d_LY_lay_19 ?_
  refine vv_nS hw (wc := [ar_I qo cI 8 st.2.2.2.2]) (wr := [ob_LY a qt qp qo way (0, 0, 0, st.2.2.2), ar_I qp cI 256 st.2.2.2.1, ob_TB qt qs qc K W F, ar_I qs cI 2312 T.1, ar_I qc cI 2312 T.2]) [] (c_AR_fill (cx_l X) (cx_D X) cI qo 8 0 st.2.2.2.2 (by decide)) lk_LY_35 d_LY_lay_20 rfl [2] [0, 1, 3, 4, 5] ⟨rfl, rfl⟩ ⟨rfl, rfl, by decide⟩ [0] rfl ⟨⟨by decide, by decide⟩, ⟨by decide, by decide⟩, Nat.le_of_ble_eq_true rfl⟩ ⟨rfl, rfl⟩ ?_
  rintro v w1 p1 t1 ⟨rfl, rfl, rfl⟩
  dsimp only [Option.toList, List.cons_append, List.nil_append, List.append_nil]
  refine vv_sub (ws' := [ob_LY a qt qp qo way (ly0 st), ar_I qp cI 256 (ly0 st).2.2.2.1, ar_I qo cI 8 (ly0 st).2.2.2.2, ob_TB qt qs qc K W F, ar_I qs cI 2312 T.1, ar_I qc cI 2312 T.2]) [0, 1, 5, 2, 3, 4] rfl rfl ?_
  refine vv_aload_n d_LY_lay_23 rfl ?_
  refine vv_get d_LY_lay_24 0 rfl fl_LY_31 rfl ?_
  refine vv_iload_n d_LY_lay_27 rfl ?_
  refine vv_iconst d_LY_lay_28 ?_
  refine vv_aload_n d_LY_lay_29 rfl ?_
  refine vv_getP d_LY_lay_30 hin hat fl_LY_41 rfl ?_
  refine vv_aload_n d_LY_lay_33 rfl ?_
  refine vv_getP d_LY_lay_34 hin hat fl_LY_46 rfl ?_
  refine vv_pV (wc := [ob_TB qt qs qc K W F, ar_I qs cI 2312 T.1]) (plc := []) [] (c_TB_scoreOf (cx_l X) (cx_D X) cI qt qs qc K W F S 0 r.1 r.2.1 T.1 hp0) lk_LY_49 d_LY_lay_37 rfl (rc_at 3 rfl rfl rfl) [3, 4] ⟨rfl, rfl, Or.inl rfl⟩ [0] rfl ⟨⟨by decide, by decide⟩, ⟨by decide, by decide⟩, Nat.le_of_ble_eq_true rfl⟩ ⟨rfl, rfl⟩ ?_
  intro v hv
  subst hv
  dsimp only [Option.toList, List.cons_append, List.nil_append, List.append_nil]
  refine vv_istore_n d_LY_lay_40 rfl (by decide) ?_
  dsimp only [List.set]
  refine vv_aload_n d_LY_lay_41 rfl ?_
  refine vv_get d_LY_lay_42 0 rfl fl_LY_31 rfl ?_
  refine vv_iload_n d_LY_lay_45 rfl ?_
  refine vv_iconst d_LY_lay_46 ?_
  refine vv_aload_n d_LY_lay_47 rfl ?_
  refine vv_getP d_LY_lay_48 hin hat fl_LY_41 rfl ?_
  refine vv_aload_n d_LY_lay_51 rfl ?_
  refine vv_getP d_LY_lay_52 hin hat fl_LY_46 rfl ?_
  refine vv_pV (wc := [ob_TB qt qs qc K W F, ar_I qs cI 2312 T.1]) (plc := []) [] (c_TB_scoreOf (cx_l X) (cx_D X) cI qt qs qc K W F S 1 r.1 r.2.1 T.1 hp1) lk_LY_49 d_LY_lay_55 rfl (rc_at 3 rfl rfl rfl) [3, 4] ⟨rfl, rfl, Or.inl rfl⟩ [0] rfl ⟨⟨by decide, by decide⟩, ⟨by decide, by decide⟩, Nat.le_of_ble_eq_true rfl⟩ ⟨rfl, rfl⟩ ?_
  intro v hv
  subst hv
  dsimp only [Option.toList, List.cons_append, List.nil_append, List.append_nil]
  refine vv_istore d_LY_lay_58 rfl (by decide) ?_
  dsimp only [List.set]
  refine vv_aload_n d_LY_lay_60 rfl ?_
  refine vv_iload d_LY_lay_61 rfl ?_
  refine vv_iload_n d_LY_lay_63 rfl ?_
  refine vv_icmp_le (tgt := 71) d_LY_lay_64 (by decide) ⟨by omega, by omega⟩ (fun c64 => ?_) (fun c64 => ?_)
  · skip
    refine vv_iconst d_LY_lay_71 ?_
    refine vv_put hw d_LY_lay_72 0 rfl fp_LY_22 rfl rfl (Nat.le_of_ble_eq_true rfl) ?_
    dsimp only [List.set]
    refine vv_aload_n d_LY_lay_75 rfl ?_
    refine vv_iconst d_LY_lay_76 ?_
    refine vv_iconst d_LY_lay_77 ?_
    refine vv_aload_n d_LY_lay_78 rfl ?_
    refine vv_getP d_LY_lay_79 hin hat fl_LY_41 rfl ?_
    refine vv_aload_n d_LY_lay_82 rfl ?_
    refine vv_getP d_LY_lay_83 hin hat fl_LY_46 rfl ?_
    refine vv_aload_n d_LY_lay_86 rfl ?_
    refine vv_get d_LY_lay_87 0 rfl fl_LY_22 rfl ?_
    refine vv_iload_n d_LY_lay_90 rfl ?_
    have hwy : lyw T.1 S r.1 r.2.1 = false := decide_eq_false (by omega)
    refine vv_nV hw (wc := [ob_LY a qt qp qo 0 (ly0 st), ar_I qp cI 256 (ly0 st).2.2.2.1, ar_I qo cI 8 (ly0 st).2.2.2.2, ob_TB qt qs qc K W F, ar_I qc cI 2312 T.2]) (wr := [ar_I qs cI 2312 T.1]) [] (c_LY_layTree (cx_l X) (cx_D X) cI a qt qp qo qs qc 0 K W F 0 0 r.1 r.2.1 T.2 (ly0 st) hK hC LN_0 (by unfold okp; omega) S hS false S 0 rfl rfl) lk_LY_55 d_LY_lay_91 rfl (rc_at 0 rfl rfl rfl) [0, 1, 2, 3, 5] [4] ⟨rfl, rfl⟩ ⟨rfl, rfl, by decide⟩ [0] rfl ⟨⟨by decide, by decide⟩, ⟨by decide, by decide⟩, Nat.le_of_ble_eq_true rfl⟩ ⟨rfl, rfl⟩ ?_
    rintro v w1 p1 t1 ⟨rfl, rfl, rfl⟩
    dsimp only [Option.toList, List.cons_append, List.nil_append, List.append_nil]
    refine vv_sub (ws' := [ob_LY a qt qp qo (bz (lyw T.1 S r.1 r.2.1)) (lay T K S r.1 r.2.1 st), ar_I qp cI 256 (lay T K S r.1 r.2.1 st).2.2.2.1, ar_I qo cI 8 (lay T K S r.1 r.2.1 st).2.2.2.2, ob_TB qt qs qc K W F, ar_I qs cI 2312 T.1, ar_I qc cI 2312 T.2]) [1, 2, 3, 4, 0, 5] rfl (by unfold lay; rw [hwy]; rfl) ?_
    exact vv_vret hA hw hr d_LY_lay_94 (by decide) (by decide) (by exact ⟨rfl, rfl, rfl⟩)
  · skip
    refine vv_iconst d_LY_lay_67 ?_
    refine vv_goto (tgt := 72) d_LY_lay_68 (by decide) ?_
    refine vv_put hw d_LY_lay_72 0 rfl fp_LY_22 rfl rfl (Nat.le_of_ble_eq_true rfl) ?_
    dsimp only [List.set]
    refine vv_aload_n d_LY_lay_75 rfl ?_
    refine vv_iconst d_LY_lay_76 ?_
    refine vv_iconst d_LY_lay_77 ?_
    refine vv_aload_n d_LY_lay_78 rfl ?_
    refine vv_getP d_LY_lay_79 hin hat fl_LY_41 rfl ?_
    refine vv_aload_n d_LY_lay_82 rfl ?_
    refine vv_getP d_LY_lay_83 hin hat fl_LY_46 rfl ?_
    refine vv_aload_n d_LY_lay_86 rfl ?_
    refine vv_get d_LY_lay_87 0 rfl fl_LY_22 rfl ?_
    refine vv_iload_n d_LY_lay_90 rfl ?_
    have hwy : lyw T.1 S r.1 r.2.1 = true := decide_eq_true (by omega)
    refine vv_nV hw (wc := [ob_LY a qt qp qo 1 (ly0 st), ar_I qp cI 256 (ly0 st).2.2.2.1, ar_I qo cI 8 (ly0 st).2.2.2.2, ob_TB qt qs qc K W F, ar_I qc cI 2312 T.2]) (wr := [ar_I qs cI 2312 T.1]) [] (c_LY_layTree (cx_l X) (cx_D X) cI a qt qp qo qs qc 1 K W F 0 0 r.1 r.2.1 T.2 (ly0 st) hK hC LN_0 (by unfold okp; omega) S hS true S 1 rfl rfl) lk_LY_55 d_LY_lay_91 rfl (rc_at 0 rfl rfl rfl) [0, 1, 2, 3, 5] [4] ⟨rfl, rfl⟩ ⟨rfl, rfl, by decide⟩ [0] rfl ⟨⟨by decide, by decide⟩, ⟨by decide, by decide⟩, Nat.le_of_ble_eq_true rfl⟩ ⟨rfl, rfl⟩ ?_
    rintro v w1 p1 t1 ⟨rfl, rfl, rfl⟩
    dsimp only [Option.toList, List.cons_append, List.nil_append, List.append_nil]
    refine vv_sub (ws' := [ob_LY a qt qp qo (bz (lyw T.1 S r.1 r.2.1)) (lay T K S r.1 r.2.1 st), ar_I qp cI 256 (lay T K S r.1 r.2.1 st).2.2.2.1, ar_I qo cI 8 (lay T K S r.1 r.2.1 st).2.2.2.2, ob_TB qt qs qc K W F, ar_I qs cI 2312 T.1, ar_I qc cI 2312 T.2]) [1, 2, 3, 4, 0, 5] rfl (by unfold lay; rw [hwy]; rfl) ?_
    exact vv_vret hA hw hr d_LY_lay_94 (by decide) (by decide) (by exact ⟨rfl, rfl, rfl⟩)
end
section
/-! Layout.areaToTake, partsUsed -/
def at_sum (co : Nat → Int) (R : Nat → pa_T) : Nat → Int
  | 0 => 0
  | n + 1 => at_sum co R n + min (co n) (R n).2.2.2.2 * ((R n).1 * (R n).2.1)
def pu_m (co : Nat → Int) : Nat → Nat
  | 0 => 0
  | n + 1 => pu_m co n ||| (if 0 < co n then 2 ^ n else 0)
theorem ia_one {p : Nat} (hp : p < 31) : iI 1 <<< (iI (p : Int) &&& 31) = iI ((2 ^ p : Nat) : Int) := by
  rw [iI_nat, iI_nat]
  have h1 : 1 * 2 ^ p < 2 ^ 32 := by rw [Nat.one_mul]; exact Nat.pow_lt_pow_right (by decide) (by omega)
  have h2 := pk_shlN (n := 1) (nI p &&& 31) p (sl_31 p (by omega)) h1
  rw [Nat.one_mul] at h2
  exact h2
set_option maxHeartbeats 4000000 in
set_option maxRecDepth 100000 in
theorem c_LY_areaToTake (l : Launch) (D : va_G) (cI cP : ClassId) (a qt qp qo qa : Nat) (way : Int) (st : ly_T) (fP : Nat → Option Nat) (L : List Nat) (f : Nat → va_E) (aP : Nat → Nat) (R : Nat → pa_T) (hfP : ∀ p : Nat, p < 8 → fP p = some (aP p)) (hPP : PP L f aP R) (hco : ∀ p : Nat, p < 8 → 0 ≤ st.2.2.2.2 p ∧ st.2.2.2.2 p ≤ 1000000) (hlf : ∀ p : Nat, p < 8 → 0 ≤ (R p).2.2.2.2 ∧ (R p).2.2.2.2 ≤ 1000000) : CP l y_LY_areaToTake b_LY_areaToTake 4 (some .int) rm_1 [.ref a, .ref qa] D [(cI, .int), (cP, .object "SheetTrees$Part")] ([ob_LY a qt qp qo way st, ar_I qo cI 8 st.2.2.2.2, ar_Q qa cP 8 fP] ++ va_pl L f) (fun v => v = some (.int (iI (at_sum st.2.2.2.2 R 8)))) := by
  refine cp_of (by decide) (Nat.le_of_ble_eq_true rfl) ?_
  intro X sz hl hr hD hA
  subst hD
  have loop : ∀ m n : Nat, n + m = 8 → VV X (b_LY_areaToTake, 4, "SheetTrees$Layout", rm_1) (cr X sz (fun v => v = some (.int (iI (at_sum st.2.2.2.2 R 8)))) rm_1) 0 0 [(cI, .int), (cP, .object "SheetTrees$Part")] [ob_LY a qt qp qo way st, ar_I qo cI 8 st.2.2.2.2, ar_Q qa cP 8 fP] (va_pl L f) [some (.ref a), some (.ref qa), some (.int (iI (at_sum st.2.2.2.2 R n))), some (.int (iI (n : Int)))] [] 4 := by
    intro m
    induction m with
    | zero =>
      intro n hn
      have hn2 : n = 8 := by omega
      subst hn2
      refine vv_iload_n d_LY_areaToTake_4 rfl ?_
      refine vv_aload_n d_LY_areaToTake_5 rfl ?_
      refine vv_get d_LY_areaToTake_6 0 rfl fl_LY_15 rfl ?_
      refine vv_alen d_LY_areaToTake_9 1 0 rfl rfl (v := 8) rfl ?_
      refine vv_icmp_ge (tgt := 50) d_LY_areaToTake_10 (by decide) ⟨by omega, by omega⟩ (fun c10 => ?_) (fun c10 => ?_)
      · skip
        refine vv_iload_n d_LY_areaToTake_50 rfl ?_
        exact vp_iret hA hr d_LY_areaToTake_51 (by decide) (by decide) rfl
      · exfalso; omega
    | succ m ih =>
      intro n hn
      have hn8 : n < 8 := by omega
      obtain ⟨hin, hat⟩ := hPP n hn8
      have h1 := hco n hn8
      have h2 := hlf n hn8
      refine vv_iload_n d_LY_areaToTake_4 rfl ?_
      refine vv_aload_n d_LY_areaToTake_5 rfl ?_
      refine vv_get d_LY_areaToTake_6 0 rfl fl_LY_15 rfl ?_
      refine vv_alen d_LY_areaToTake_9 1 0 rfl rfl (v := 8) rfl ?_
      refine vv_icmp_ge (tgt := 50) d_LY_areaToTake_10 (by decide) ⟨by omega, by omega⟩ (fun c10 => ?_) (fun c10 => ?_)
      · exfalso; omega
      · skip
        refine vv_iload_n d_LY_areaToTake_13 rfl ?_
        refine vv_aload_n d_LY_areaToTake_14 rfl ?_
        refine vv_alen d_LY_areaToTake_15 2 1 rfl rfl (v := 8) rfl ?_
        refine vv_icmp_ge (tgt := 50) d_LY_areaToTake_16 (by decide) ⟨by omega, by omega⟩ (fun c16 => ?_) (fun c16 => ?_)
        · exfalso; omega
        · skip
          refine vv_iload_n d_LY_areaToTake_19 rfl ?_
          refine vv_aload_n d_LY_areaToTake_20 rfl ?_
          refine vv_get d_LY_areaToTake_21 0 rfl fl_LY_15 rfl ?_
          refine vv_iload_n d_LY_areaToTake_24 rfl ?_
          refine vv_iald d_LY_areaToTake_25 1 0 rfl rfl (by omega) ?_
          rw [Int.toNat_natCast]
          refine vv_aload_n d_LY_areaToTake_26 rfl ?_
          refine vv_iload_n d_LY_areaToTake_27 rfl ?_
          refine vv_aald d_LY_areaToTake_28 2 1 rfl rfl (by omega) (show fP ((n : Int).toNat) = some (aP n) by rw [Int.toNat_natCast]; exact hfP n hn8) ?_
          refine vv_getP d_LY_areaToTake_29 hin hat fl_LY_75 rfl ?_
          refine vv_mmin d_LY_areaToTake_32 lm_LY_80 ⟨by omega, by omega⟩ ⟨by decide, Nat.le_of_ble_eq_true rfl, by decide, by decide⟩ ?_
          refine vv_aload_n d_LY_areaToTake_35 rfl ?_
          refine vv_iload_n d_LY_areaToTake_36 rfl ?_
          refine vv_aald d_LY_areaToTake_37 2 1 rfl rfl (by omega) (show fP ((n : Int).toNat) = some (aP n) by rw [Int.toNat_natCast]; exact hfP n hn8) ?_
          refine vv_pV (wc := []) (plc := va_pl L f) [.int (iI (min (st.2.2.2.2 n) (R n).2.2.2.2)), .int (iI (at_sum st.2.2.2.2 R n))] (c_PA_area (cx_l X) (cx_D X) L f (aP n) (R n) hin hat) lk_LY_86 d_LY_areaToTake_38 rfl (rc_pl hin hat rfl rfl) [] ⟨rfl, rfl, Or.inr rfl⟩ [] rfl ⟨⟨by decide, by decide⟩, ⟨by decide, by decide⟩, Nat.le_of_ble_eq_true rfl⟩ ⟨rfl, rfl⟩ ?_
          intro v hv
          subst hv
          dsimp only [Option.toList, List.cons_append, List.nil_append, List.append_nil]
          refine vv_imul d_LY_areaToTake_41 ?_
          refine vv_iadd d_LY_areaToTake_42 ?_
          refine vv_istore_n d_LY_areaToTake_43 rfl (by decide) ?_
          dsimp only [List.set]
          refine vv_iinc d_LY_areaToTake_44 rfl rfl (by decide) ?_
          dsimp only [List.set]
          refine vv_goto (tgt := 4) d_LY_areaToTake_47 (by decide) ?_
          exact ih (n + 1) (by omega)
  show VV X (b_LY_areaToTake, 4, "SheetTrees$Layout", rm_1) _ 0 0 [(cI, .int), (cP, .object "SheetTrees$Part")] [ob_LY a qt qp qo way st, ar_I qo cI 8 st.2.2.2.2, ar_Q qa cP 8 fP] (va_pl L f) [some (.ref a), some (.ref qa), none, none] [] 0
  refine vv_iconst d_LY_areaToTake_0 ?_
  refine vv_istore_n d_LY_areaToTake_1 rfl (by decide) ?_
  dsimp only [List.set]
  refine vv_iconst d_LY_areaToTake_2 ?_
  refine vv_istore_n d_LY_areaToTake_3 rfl (by decide) ?_
  dsimp only [List.set]
  exact loop 8 0 (by omega)
set_option maxHeartbeats 4000000 in
set_option maxRecDepth 100000 in
theorem c_LY_partsUsed (l : Launch) (D : va_G) (cI : ClassId) (a qt qp qo : Nat) (way : Int) (st : ly_T) (hco : ∀ p : Nat, p < 8 → 0 ≤ st.2.2.2.2 p ∧ st.2.2.2.2 p ≤ 1000000) : CP l y_LY_partsUsed b_LY_partsUsed 3 (some .int) rm_0 [.ref a] D [(cI, .int)] ([ob_LY a qt qp qo way st, ar_I qo cI 8 st.2.2.2.2] ++ []) (fun v => v = some (.int (iI ((pu_m st.2.2.2.2 8 : Nat) : Int)))) := by
  refine cp_of (by decide) (Nat.le_of_ble_eq_true rfl) ?_
  intro X sz hl hr hD hA
  subst hD
  have loop : ∀ m n : Nat, n + m = 8 → VV X (b_LY_partsUsed, 3, "SheetTrees$Layout", rm_0) (cr X sz (fun v => v = some (.int (iI ((pu_m st.2.2.2.2 8 : Nat) : Int)))) rm_0) 0 0 [(cI, .int)] [ob_LY a qt qp qo way st, ar_I qo cI 8 st.2.2.2.2] [] [some (.ref a), some (.int (iI ((pu_m st.2.2.2.2 n : Nat) : Int))), some (.int (iI (n : Int)))] [] 4 := by
    intro m
    induction m with
    | zero =>
      intro n hn
      have hn2 : n = 8 := by omega
      subst hn2
      refine vv_iload_n d_LY_partsUsed_4 rfl ?_
      refine vv_aload_n d_LY_partsUsed_5 rfl ?_
      refine vv_get d_LY_partsUsed_6 0 rfl fl_LY_15 rfl ?_
      refine vv_alen d_LY_partsUsed_9 1 0 rfl rfl (v := 8) rfl ?_
      refine vv_icmp_ge (tgt := 38) d_LY_partsUsed_10 (by decide) ⟨by omega, by omega⟩ (fun c10 => ?_) (fun c10 => ?_)
      · skip
        refine vv_iload_n d_LY_partsUsed_38 rfl ?_
        exact vp_iret hA hr d_LY_partsUsed_39 (by decide) (by decide) (by rfl)
      · exfalso; omega
    | succ m ih =>
      intro n hn
      have h1 := hco n (by omega)
      refine vv_iload_n d_LY_partsUsed_4 rfl ?_
      refine vv_aload_n d_LY_partsUsed_5 rfl ?_
      refine vv_get d_LY_partsUsed_6 0 rfl fl_LY_15 rfl ?_
      refine vv_alen d_LY_partsUsed_9 1 0 rfl rfl (v := 8) rfl ?_
      refine vv_icmp_ge (tgt := 38) d_LY_partsUsed_10 (by decide) ⟨by omega, by omega⟩ (fun c10 => ?_) (fun c10 => ?_)
      · exfalso; omega
      · skip
        refine vv_iload_n d_LY_partsUsed_13 rfl ?_
        refine vv_aload_n d_LY_partsUsed_14 rfl ?_
        refine vv_get d_LY_partsUsed_15 0 rfl fl_LY_15 rfl ?_
        refine vv_iload_n d_LY_partsUsed_18 rfl ?_
        refine vv_iald d_LY_partsUsed_19 1 0 rfl rfl (by omega) ?_
        rw [Int.toNat_natCast]
        refine vv_if_le (tgt := 29) d_LY_partsUsed_20 (by decide) ⟨by omega, by omega⟩ (fun c20 => ?_) (fun c20 => ?_)
        · skip
          refine vv_iconst d_LY_partsUsed_29 ?_
          refine vv_ior d_LY_partsUsed_30 (ia_or (pu_m st.2.2.2.2 n) 0) ?_
          refine vv_istore_n d_LY_partsUsed_31 rfl (by decide) ?_
          dsimp only [List.set]
          refine vv_iinc d_LY_partsUsed_32 rfl rfl (by decide) ?_
          dsimp only [List.set]
          refine vv_goto (tgt := 4) d_LY_partsUsed_35 (by decide) ?_
          have h9 := ih (n + 1) (by omega)
          rw [show pu_m st.2.2.2.2 (n + 1) = pu_m st.2.2.2.2 n ||| 0 by show pu_m st.2.2.2.2 n ||| (if 0 < st.2.2.2.2 n then 2 ^ n else 0) = _; rw [if_neg (by omega)]] at h9
          exact h9
        · skip
          refine vv_iconst d_LY_partsUsed_23 ?_
          refine vv_iload_n d_LY_partsUsed_24 rfl ?_
          refine vv_ishl d_LY_partsUsed_25 (ia_one (by omega)) ?_
          refine vv_goto (tgt := 30) d_LY_partsUsed_26 (by decide) ?_
          refine vv_ior d_LY_partsUsed_30 (ia_or (pu_m st.2.2.2.2 n) (2 ^ n)) ?_
          refine vv_istore_n d_LY_partsUsed_31 rfl (by decide) ?_
          dsimp only [List.set]
          refine vv_iinc d_LY_partsUsed_32 rfl rfl (by decide) ?_
          dsimp only [List.set]
          refine vv_goto (tgt := 4) d_LY_partsUsed_35 (by decide) ?_
          have h9 := ih (n + 1) (by omega)
          rw [show pu_m st.2.2.2.2 (n + 1) = pu_m st.2.2.2.2 n ||| 2 ^ n by show pu_m st.2.2.2.2 n ||| (if 0 < st.2.2.2.2 n then 2 ^ n else 0) = _; rw [if_pos (by omega)]] at h9
          exact h9
  show VV X (b_LY_partsUsed, 3, "SheetTrees$Layout", rm_0) _ 0 0 [(cI, .int)] [ob_LY a qt qp qo way st, ar_I qo cI 8 st.2.2.2.2] [] [some (.ref a), none, none] [] 0
  refine vv_iconst d_LY_partsUsed_0 ?_
  refine vv_istore_n d_LY_partsUsed_1 rfl (by decide) ?_
  dsimp only [List.set]
  refine vv_iconst d_LY_partsUsed_2 ?_
  refine vv_istore_n d_LY_partsUsed_3 rfl (by decide) ?_
  dsimp only [List.set]
  exact loop 8 0 (by omega)
end
section
/-! The pool: Sheets, Parts, CutSheets by their addresses. -/
abbrev ob_CS (c : Nat → Int) : va_E := .inr (0, [.int (iI (c 0)), .int (iI (c 1)), .int (iI (c 2)), .int (iI (c 3)), .int (iI (c 4)), .int (iI (c 5)), .int (iI (c 6)), .int (iI (c 7)), .int (iI (c 8)), .int (iI (c 9)), .int (iI (c 10)), .int (iI (c 11)), .int (iI (c 12))])
def SS (L : List Nat) (f : Nat → va_E) (aS : Nat → Nat) (Sh : Nat → pa_T) : Prop := ∀ i : Nat, i < 4 → aS i ∈ L ∧ f (aS i) = ob_SH (Sh i)
def CC (L : List Nat) (f : Nat → va_E) (aC : Nat → Nat) (Cs : Nat → Nat → Int) : Prop := ∀ i : Nat, i < 20 → aC i ∈ L ∧ f (aC i) = ob_CS (Cs i)
def PL (L : List Nat) (f : Nat → va_E) (aS aP aC : Nat → Nat) (Sh R : Nat → pa_T) (Cs : Nat → Nat → Int) : Prop := SS L f aS Sh ∧ PP L f aP R ∧ CC L f aC Cs
/-- the addresses of one kind are apart -/
def AD (aS aP aC : Nat → Nat) : Prop := (∀ i j : Nat, i < 4 → j < 4 → aS i = aS j → i = j) ∧ (∀ i j : Nat, i < 8 → j < 8 → aP i = aP j → i = j) ∧ (∀ i j : Nat, i < 20 → j < 20 → aC i = aC j → i = j)
theorem ne_of_f {f : Nat → va_E} {a b i j : Nat} {u v : List Value} (h1 : f a = .inr (i, u)) (h2 : f b = .inr (j, v)) (hij : i ≠ j) : a ≠ b := fun e => by
  subst e
  rw [h1] at h2
  have h3 := Sum.inr.inj h2
  exact hij (congrArg Prod.fst h3)
theorem PL_S {L : List Nat} {f : Nat → va_E} {aS aP aC : Nat → Nat} {Sh R : Nat → pa_T} {Cs : Nat → Nat → Int} {i : Nat} {r : pa_T} (h : PL L f aS aP aC Sh R Cs) (hA : AD aS aP aC) (hi : i < 4) : PL L (va_up f (aS i) (ob_SH r)) aS aP aC (va_up Sh i r) R Cs := by
  obtain ⟨h1, h2, h3⟩ := h
  refine ⟨fun j hj => ⟨(h1 j hj).1, ?_⟩, fun j hj => ⟨(h2 j hj).1, ?_⟩, fun j hj => ⟨(h3 j hj).1, ?_⟩⟩
  · by_cases e : j = i
    · subst e
      rw [va_up_self, va_up_self]
    · rw [va_up_ne _ _ (fun q => e (hA.1 j i hj hi q)), va_up_ne _ _ e]
      exact (h1 j hj).2
  · rw [va_up_ne _ _ (ne_of_f (h2 j hj).2 (h1 i hi).2 (by decide))]
    exact (h2 j hj).2
  · rw [va_up_ne _ _ (ne_of_f (h3 j hj).2 (h1 i hi).2 (by decide))]
    exact (h3 j hj).2
theorem PL_P {L : List Nat} {f : Nat → va_E} {aS aP aC : Nat → Nat} {Sh R : Nat → pa_T} {Cs : Nat → Nat → Int} {i : Nat} {r : pa_T} (h : PL L f aS aP aC Sh R Cs) (hA : AD aS aP aC) (hi : i < 8) : PL L (va_up f (aP i) (ob_PA r)) aS aP aC Sh (va_up R i r) Cs := by
  obtain ⟨h1, h2, h3⟩ := h
  refine ⟨fun j hj => ⟨(h1 j hj).1, ?_⟩, fun j hj => ⟨(h2 j hj).1, ?_⟩, fun j hj => ⟨(h3 j hj).1, ?_⟩⟩
  · rw [va_up_ne _ _ (ne_of_f (h1 j hj).2 (h2 i hi).2 (by decide))]
    exact (h1 j hj).2
  · by_cases e : j = i
    · subst e
      rw [va_up_self, va_up_self]
    · rw [va_up_ne _ _ (fun q => e (hA.2.1 j i hj hi q)), va_up_ne _ _ e]
      exact (h2 j hj).2
  · rw [va_up_ne _ _ (ne_of_f (h3 j hj).2 (h2 i hi).2 (by decide))]
    exact (h3 j hj).2
theorem PL_C {L : List Nat} {f : Nat → va_E} {aS aP aC : Nat → Nat} {Sh R : Nat → pa_T} {Cs : Nat → Nat → Int} {i : Nat} {c : Nat → Int} (h : PL L f aS aP aC Sh R Cs) (hA : AD aS aP aC) (hi : i < 20) : PL L (va_up f (aC i) (ob_CS c)) aS aP aC Sh R (va_up Cs i c) := by
  obtain ⟨h1, h2, h3⟩ := h
  refine ⟨fun j hj => ⟨(h1 j hj).1, ?_⟩, fun j hj => ⟨(h2 j hj).1, ?_⟩, fun j hj => ⟨(h3 j hj).1, ?_⟩⟩
  · rw [va_up_ne _ _ (ne_of_f (h1 j hj).2 (h3 i hi).2 (by decide))]
    exact (h1 j hj).2
  · rw [va_up_ne _ _ (ne_of_f (h2 j hj).2 (h3 i hi).2 (by decide))]
    exact (h2 j hj).2
  · by_cases e : j = i
    · subst e
      rw [va_up_self, va_up_self]
    · rw [va_up_ne _ _ (fun q => e (hA.2.2 j i hj hi q)), va_up_ne _ _ e]
      exact (h3 j hj).2
section PU
variable {X : cx_T} {M : ms_T} {Q : State → Prop} {k n : Nat} {tys : List (ClassId × FieldType)} {ws pl : va_W} {lv : List (Option Value)} {st : List Value} {pc idx : Nat}
theorem up_id {f : Nat → va_E} {a : Nat} {e : va_E} (he : f a = e) : va_up f a e = f := by
  funext j
  by_cases hj : j = a
  · subst hj
    rw [va_up_self, he]
  · rw [va_up_ne _ _ hj]
theorem vv_enter {L : List Nat} {f : Nat → va_E} {a : Nat} {e : va_E} (he : f a = e) (kk : VV X M Q k n tys ws (va_pl L (va_up f a e)) lv st pc) : VV X M Q k n tys ws (va_pl L f) lv st pc := by
  rw [up_id he] at kk
  exact kk
theorem vv_putU (hw : cx_w X) {L : List Nat} {f : Nat → va_E} {ci a j : Nat} {fs : List Value} {v : Value} {ty : FieldType} (hd : decode M.1 pc = .ok (.putfield idx, 3)) (hm : a ∈ L) (hf : fp_ok M.2.2.1 idx ci j ty) (hn : narrow ty v = v) (hfit : fits ty v = true) (hj : j < fs.length) (kk : VV X M Q k n tys ws (va_pl L (va_up f a (.inr (ci, fs.set j v)))) lv st (pc + 3)) : VV X M Q k n tys ws (va_pl L (va_up f a (.inr (ci, fs)))) lv (v :: .ref a :: st) pc := by
  refine vv_putP hw hd hm (va_up_self _ _ _) hf hn hfit hj ?_
  rw [bx_uu]
  exact kk
theorem vv_getU {L : List Nat} {f : Nat → va_E} {ci a j : Nat} {fs : List Value} {v : Value} (hd : decode M.1 pc = .ok (.getfield idx, 3)) (hm : a ∈ L) (hf : fl_ok M.2.2.1 idx ci j) (hv : fs[j]? = some v) (kk : VV X M Q k n tys ws (va_pl L (va_up f a (.inr (ci, fs)))) lv (v :: st) (pc + 3)) : VV X M Q k n tys ws (va_pl L (va_up f a (.inr (ci, fs)))) lv (.ref a :: st) pc := vv_getP hd hm (va_up_self _ _ _) hf hv kk
end PU
end
section
/-! SheetTrees: small helpers; CutSheet.start; takePart, keepRest, firstAlike -/
abbrev ob_ST (x qsh qpa qcu qtk qrs qt ql : Nat) (S le nS nP nC nT nR rn : Int) : Nat × va_E := (x, .inr (5, [.int (iI S), .int (iI le), .ref qsh, .ref qpa, .ref qcu, .ref qtk, .ref qrs, .ref qt, .ref ql, .int (iI nS), .int (iI nP), .int (iI nC), .int (iI nT), .int (iI nR), .int (iI rn)]))
def isW (v lo hi : Int) : Int := if lo ≤ v ∧ v ≤ hi then 1 else 0
set_option maxHeartbeats 4000000 in
set_option maxRecDepth 100000 in
theorem c_ST_isWithin (l : Launch) (D : va_G) (v lo hi : Int) (hv : -2147483648 ≤ v ∧ v < 2147483648) (h1 : -2147483648 ≤ lo ∧ lo < 2147483648) (h2 : -2147483648 ≤ hi ∧ hi < 2147483648) : CP l y_ST_isWithin b_ST_isWithin 3 (some .boolean) rm_0 [.int (iI v), .int (iI lo), .int (iI hi)] D [] ([] ++ []) (fun r => r = some (.int (iI (isW v lo hi)))) := by
  refine cp_of (by decide) (Nat.le_of_ble_eq_true rfl) ?_
  intro X sz hl hr hD hA
  subst hD
  show VV X (b_ST_isWithin, 3, "SheetTrees", rm_0) _ 0 0 [] [] [] [some (.int (iI v)), some (.int (iI lo)), some (.int (iI hi))] [] 0
  refine vv_iload_n d_ST_isWithin_0 rfl ?_
  refine vv_iload_n d_ST_isWithin_1 rfl ?_
  refine vv_icmp_lt (tgt := 14) d_ST_isWithin_2 (by decide) ⟨by omega, by omega⟩ (fun c2 => ?_) (fun c2 => ?_)
  · skip
    refine vv_iconst d_ST_isWithin_14 ?_
    exact vp_zret hA hr (by decide) d_ST_isWithin_15 (by decide) (by decide) (by unfold isW; rw [if_neg (by omega)])
  · skip
    refine vv_iload_n d_ST_isWithin_5 rfl ?_
    refine vv_iload_n d_ST_isWithin_6 rfl ?_
    refine vv_icmp_gt (tgt := 14) d_ST_isWithin_7 (by decide) ⟨by omega, by omega⟩ (fun c7 => ?_) (fun c7 => ?_)
    · skip
      refine vv_iconst d_ST_isWithin_14 ?_
      exact vp_zret hA hr (by decide) d_ST_isWithin_15 (by decide) (by decide) (by unfold isW; rw [if_neg (by omega)])
    · skip
      refine vv_iconst d_ST_isWithin_10 ?_
      refine vv_goto (tgt := 15) d_ST_isWithin_11 (by decide) ?_
      exact vp_zret hA hr (by decide) d_ST_isWithin_15 (by decide) (by decide) (by unfold isW; rw [if_pos (by omega)])
set_option maxHeartbeats 4000000 in
set_option maxRecDepth 100000 in
theorem c_ST_isSide (l : Launch) (D : va_G) (v : Int) (hv : -2147483648 ≤ v ∧ v < 2147483648) : CP l y_ST_isSide b_ST_isSide 1 (some .boolean) rm_1 [.int (iI v)] D [] ([] ++ []) (fun r => r = some (.int (iI (isW v 1 16)))) := by
  refine cp_of (by decide) (Nat.le_of_ble_eq_true rfl) ?_
  intro X sz hl hr hD hA
  subst hD
  show VV X (b_ST_isSide, 1, "SheetTrees", rm_1) _ 0 0 [] [] [] [some (.int (iI v))] [] 0
  have hz : isW v 1 16 = 0 ∨ isW v 1 16 = 1 := by unfold isW; split <;> simp
  refine vv_iload_n d_ST_isSide_0 rfl ?_
  refine vv_iconst d_ST_isSide_1 ?_
  refine vv_bipush d_ST_isSide_2 (by decide +kernel) ?_
  refine vv_pS (wc := []) (plc := []) [] (c_ST_isWithin (cx_l X) (cx_D X) v 1 16 hv (by omega) (by omega)) lk_ST_96 d_ST_isSide_4 rfl [] ⟨rfl, rfl, Or.inl rfl⟩ [] rfl ⟨⟨by decide, by decide⟩, ⟨by decide, by decide⟩, Nat.le_of_ble_eq_true rfl⟩ ⟨rfl, rfl⟩ ?_
  intro v hv
  subst hv
  dsimp only [Option.toList, List.cons_append, List.nil_append, List.append_nil]
  refine vp_zret hA hr ?_ d_ST_isSide_7 (by decide) (by decide) rfl
  rcases hz with hz | hz <;> rw [hz] <;> decide
set_option maxHeartbeats 4000000 in
set_option maxRecDepth 100000 in
theorem c_ST_nearest (l : Launch) (D : va_G) (v lo hi : Int) (hv : -2147483648 ≤ v ∧ v < 2147483648) (h1 : -2147483648 ≤ lo ∧ lo < 2147483648) (h2 : -2147483648 ≤ hi ∧ hi < 2147483648) : CP l y_ST_nearest b_ST_nearest 3 (some .int) rm_1 [.int (iI v), .int (iI lo), .int (iI hi)] D [] ([] ++ []) (fun r => r = some (.int (iI (max lo (min hi v))))) := by
  refine cp_of (by decide) (Nat.le_of_ble_eq_true rfl) ?_
  intro X sz hl hr hD hA
  subst hD
  show VV X (b_ST_nearest, 3, "SheetTrees", rm_1) _ 0 0 [] [] [] [some (.int (iI v)), some (.int (iI lo)), some (.int (iI hi))] [] 0
  refine vv_iload_n d_ST_nearest_0 rfl ?_
  refine vv_iload_n d_ST_nearest_1 rfl ?_
  refine vv_iload_n d_ST_nearest_2 rfl ?_
  refine vv_mmin d_ST_nearest_3 lm_ST_238 ⟨by omega, by omega⟩ ⟨by decide, Nat.le_of_ble_eq_true rfl, by decide, by decide⟩ ?_
  refine vv_mmax d_ST_nearest_6 lm_ST_232 ⟨by omega, by omega⟩ ⟨by decide, Nat.le_of_ble_eq_true rfl, by decide, by decide⟩ ?_
  exact vp_iret hA hr d_ST_nearest_9 (by decide) (by decide) (by rfl)
set_option maxHeartbeats 4000000 in
set_option maxRecDepth 100000 in
theorem c_ST_pieceAt (l : Launch) (D : va_G) (cI : ClassId) (q N : Nat) (g : Nat → Int) (z : Int) (hz : 0 ≤ z ∧ z < (N : Int)) (hN : N < 2147483648) : CP l y_ST_pieceAt b_ST_pieceAt 2 (some .int) rm_0 [.ref q, .int (iI z)] D [(cI, .int)] ([ar_I q cI N g] ++ []) (fun r => r = some (.int (iI (g z.toNat)))) := by
  refine cp_of (by decide) (Nat.le_of_ble_eq_true rfl) ?_
  intro X sz hl hr hD hA
  subst hD
  show VV X (b_ST_pieceAt, 2, "SheetTrees", rm_0) _ 0 0 [(cI, .int)] [ar_I q cI N g] [] [some (.ref q), some (.int (iI z))] [] 0
  refine vv_iload_n d_ST_pieceAt_0 rfl ?_
  refine vv_if_lt (tgt := 16) d_ST_pieceAt_1 (by decide) ⟨by omega, by omega⟩ (fun c1 => ?_) (fun c1 => ?_)
  · exfalso; omega
  · skip
    refine vv_iload_n d_ST_pieceAt_4 rfl ?_
    refine vv_aload_n d_ST_pieceAt_5 rfl ?_
    refine vv_alen d_ST_pieceAt_6 0 0 rfl rfl (v := (N : Int)) rfl ?_
    refine vv_icmp_ge (tgt := 16) d_ST_pieceAt_7 (by decide) ⟨by omega, by omega⟩ (fun c7 => ?_) (fun c7 => ?_)
    · exfalso; omega
    · skip
      refine vv_aload_n d_ST_pieceAt_10 rfl ?_
      refine vv_iload_n d_ST_pieceAt_11 rfl ?_
      refine vv_iald d_ST_pieceAt_12 0 0 rfl rfl (by omega) ?_
      refine vv_goto (tgt := 17) d_ST_pieceAt_13 (by decide) ?_
      exact vp_iret hA hr d_ST_pieceAt_17 (by decide) (by decide) (by rfl)
def cs_st (c : Nat → Int) (i ce ar wy cu mi pu : Int) : Nat → Int := fun k => match k with | 0 => i | 1 => ce | 2 => ar | 3 => wy | 4 => cu | 5 => mi | 6 => pu | 9 => 0 | k => c k
set_option maxHeartbeats 4000000 in
set_option maxRecDepth 100000 in
theorem c_CS_start (l : Launch) (D : va_G) (cI : ClassId) (a b ql qt qp qo : Nat) (way i : Int) (st : ly_T) (c : Nat → Int) (r : pa_T) (L : List Nat) (f : Nat → va_E) (hin : a ∈ L) (hat : f a = ob_CS c) (hin2 : b ∈ L) (hat2 : f b = ob_SH r) (hco : ∀ p : Nat, p < 8 → 0 ≤ st.2.2.2.2 p ∧ st.2.2.2.2 p ≤ 1000000) : CM l y_CS_start b_CS_start 4 none rm_1 [.ref a, .int (iI i), .ref b, .ref ql] D [(cI, .int)] ([ob_LY ql qt qp qo way st, ar_I qo cI 8 st.2.2.2.2] ++ va_pl L f) (fun v w1 p1 _ => v = none ∧ w1 = [ob_LY ql qt qp qo way st, ar_I qo cI 8 st.2.2.2.2] ∧ p1 = va_pl L (va_up f a (ob_CS (cs_st c i r.2.2.1 (r.1 * r.2.1) way st.2.1 st.2.2.1 (pu_m st.2.2.2.2 8 : Nat))))) := by
  refine cm_of (by decide) (Nat.le_of_ble_eq_true rfl) ?_
  intro X sz hl hr hnm hD hA hw
  subst hD
  show VV X (b_CS_start, 4, "SheetTrees$CutSheet", rm_1) _ 0 0 [(cI, .int)] [ob_LY ql qt qp qo way st, ar_I qo cI 8 st.2.2.2.2] (va_pl L f) [some (.ref a), some (.int (iI i)), some (.ref b), some (.ref ql)] [] 0
  have hne : b ≠ a := ne_of_f hat2 hat (by decide)
  refine vv_enter hat ?_
  refine vv_aload_n d_CS_start_0 rfl ?_
  refine vv_iload_n d_CS_start_1 rfl ?_
  refine vv_putU hw d_CS_start_2 hin fp_CS_7 rfl rfl (Nat.le_of_ble_eq_true rfl) ?_
  dsimp only [List.set]
  refine vv_aload_n d_CS_start_5 rfl ?_
  refine vv_aload_n d_CS_start_6 rfl ?_
  refine vv_getP d_CS_start_7 hin2 ((va_up_ne _ _ hne).trans hat2) fl_CS_49 rfl ?_
  refine vv_putU hw d_CS_start_10 hin fp_CS_13 rfl rfl (Nat.le_of_ble_eq_true rfl) ?_
  dsimp only [List.set]
  refine vv_aload_n d_CS_start_13 rfl ?_
  refine vv_aload_n d_CS_start_14 rfl ?_
  refine vv_pV (wc := []) (plc := va_pl L _) [.ref a] (c_SH_area (cx_l X) (cx_D X) L _ b r hin2 ((va_up_ne _ _ hne).trans hat2)) lk_CS_52 d_CS_start_15 rfl (rc_pl hin2 ((va_up_ne _ _ hne).trans hat2) rfl rfl) [] ⟨rfl, rfl, Or.inr rfl⟩ [] rfl ⟨⟨by decide, by decide⟩, ⟨by decide, by decide⟩, Nat.le_of_ble_eq_true rfl⟩ ⟨rfl, rfl⟩ ?_
  intro v hv
  subst hv
  dsimp only [Option.toList, List.cons_append, List.nil_append, List.append_nil]
  refine vv_putU hw d_CS_start_18 hin fp_CS_16 rfl rfl (Nat.le_of_ble_eq_true rfl) ?_
  dsimp only [List.set]
  refine vv_aload_n d_CS_start_21 rfl ?_
  refine vv_aload_n d_CS_start_22 rfl ?_
  refine vv_get d_CS_start_23 0 rfl fl_CS_55 rfl ?_
  refine vv_putU hw d_CS_start_26 hin fp_CS_19 rfl rfl (Nat.le_of_ble_eq_true rfl) ?_
  dsimp only [List.set]
  refine vv_aload_n d_CS_start_29 rfl ?_
  refine vv_aload_n d_CS_start_30 rfl ?_
  refine vv_get d_CS_start_31 0 rfl fl_CS_58 rfl ?_
  refine vv_putU hw d_CS_start_34 hin fp_CS_22 rfl rfl (Nat.le_of_ble_eq_true rfl) ?_
  dsimp only [List.set]
  refine vv_aload_n d_CS_start_37 rfl ?_
  refine vv_aload_n d_CS_start_38 rfl ?_
  refine vv_get d_CS_start_39 0 rfl fl_CS_59 rfl ?_
  refine vv_putU hw d_CS_start_42 hin fp_CS_25 rfl rfl (Nat.le_of_ble_eq_true rfl) ?_
  dsimp only [List.set]
  refine vv_aload_n d_CS_start_45 rfl ?_
  refine vv_aload_n d_CS_start_46 rfl ?_
  refine vv_pV (wc := [ob_LY ql qt qp qo way st, ar_I qo cI 8 st.2.2.2.2]) (plc := []) [.ref a] (c_LY_partsUsed (cx_l X) (cx_D X) cI ql qt qp qo way st hco) lk_CS_60 d_CS_start_47 rfl (rc_at 0 rfl rfl rfl) [0, 1] ⟨rfl, rfl, Or.inl rfl⟩ [0] rfl ⟨⟨by decide, by decide⟩, ⟨by decide, by decide⟩, Nat.le_of_ble_eq_true rfl⟩ ⟨rfl, rfl⟩ ?_
  intro v hv
  subst hv
  dsimp only [Option.toList, List.cons_append, List.nil_append, List.append_nil]
  refine vv_putU hw d_CS_start_50 hin fp_CS_28 rfl rfl (Nat.le_of_ble_eq_true rfl) ?_
  dsimp only [List.set]
  refine vv_aload_n d_CS_start_53 rfl ?_
  refine vv_iconst d_CS_start_54 ?_
  refine vv_putU hw d_CS_start_55 hin fp_CS_37 rfl rfl (Nat.le_of_ble_eq_true rfl) ?_
  dsimp only [List.set]
  exact vv_vret hA hw hr d_CS_start_58 (by decide) (by decide) (by exact ⟨rfl, rfl, rfl⟩)
end
section
/-! SheetTrees: takePart, keepRest, firstAlike, partsTold, partsStillWanted, startRun -/
set_option maxHeartbeats 4000000 in
set_option maxRecDepth 100000 in
theorem c_ST_takePart_y (l : Launch) (D : va_G) (x qsh qpa qcu qtk qrs qt ql : Nat) (S le nS nP nC nT nR rn : Int) (cI : ClassId) (ac ap : Nat) (q : Int) (tk c : Nat → Int) (r : pa_T) (L : List Nat) (f : Nat → va_E) (hin : ac ∈ L) (hat : f ac = ob_CS c) (hin2 : ap ∈ L) (hat2 : f ap = ob_PA r) (hlf : r.2.2.2.2 ≤ 1000000 ∧ -1000000 ≤ r.2.2.2.2) (hp : 0 < r.2.2.2.2) (hn : 0 ≤ nT ∧ nT < 400) : CM l y_ST_takePart b_ST_takePart 4 none rm_1 [.ref x, .ref ac, .ref ap, .int (iI q)] D [(cI, .int)] ([ob_ST x qsh qpa qcu qtk qrs qt ql S le nS nP nC nT nR rn, ar_I qtk cI 400 tk] ++ va_pl L f) (fun v w1 p1 _ => v = none ∧ w1 = [ob_ST x qsh qpa qcu qtk qrs qt ql S le nS nP nC (nT + 1) nR rn, ar_I qtk cI 400 (va_up tk nT.toNat q)] ∧ p1 = va_pl L (va_up (va_up f ap (ob_PA (r.1, r.2.1, r.2.2.1, r.2.2.2.1, r.2.2.2.2 - 1))) ac (ob_CS (va_up c 9 (c 9 + r.1 * r.2.1))))) := by
  refine cm_of (by decide) (Nat.le_of_ble_eq_true rfl) ?_
  intro X sz hl hr hnm hD hA hw
  subst hD
  have hne : ac ≠ ap := ne_of_f hat hat2 (by decide)
  show VV X (b_ST_takePart, 4, "SheetTrees", rm_1) _ 0 0 [(cI, .int)] [ob_ST x qsh qpa qcu qtk qrs qt ql S le nS nP nC nT nR rn, ar_I qtk cI 400 tk] (va_pl L f) [some (.ref x), some (.ref ac), some (.ref ap), some (.int (iI q))] [] 0
  refine vv_aload_n d_ST_takePart_0 rfl ?_
  refine vv_getP d_ST_takePart_1 hin2 hat2 fl_ST_221 rfl ?_
  refine vv_if_le (tgt := 59) d_ST_takePart_4 (by decide) ⟨by omega, by omega⟩ (fun c4 => ?_) (fun c4 => ?_)
  · exfalso; omega
  · skip
    refine vv_aload_n d_ST_takePart_7 rfl ?_
    refine vv_get d_ST_takePart_8 0 rfl fl_ST_44 rfl ?_
    refine vv_aload_n d_ST_takePart_11 rfl ?_
    refine vv_get d_ST_takePart_12 0 rfl fl_ST_27 rfl ?_
    refine vv_alen d_ST_takePart_15 1 0 rfl rfl (v := 400) rfl ?_
    refine vv_icmp_ge (tgt := 59) d_ST_takePart_16 (by decide) ⟨by omega, by omega⟩ (fun c16 => ?_) (fun c16 => ?_)
    · exfalso; omega
    · skip
      refine vv_enter hat2 ?_
      refine vv_aload_n d_ST_takePart_19 rfl ?_
      refine vv_dup d_ST_takePart_20 rfl ?_
      refine vv_getU d_ST_takePart_21 hin2 fl_ST_221 rfl ?_
      refine vv_iconst d_ST_takePart_24 ?_
      refine vv_isub d_ST_takePart_25 ?_
      refine vv_putU hw d_ST_takePart_26 hin2 fp_ST_221 rfl rfl (Nat.le_of_ble_eq_true rfl) ?_
      dsimp only [List.set]
      refine vv_enter (a := ac) ((va_up_ne _ _ hne).trans hat) ?_
      refine vv_aload_n d_ST_takePart_29 rfl ?_
      refine vv_dup d_ST_takePart_30 rfl ?_
      refine vv_getU d_ST_takePart_31 hin fl_ST_173 rfl ?_
      refine vv_aload_n d_ST_takePart_34 rfl ?_
      refine vv_pV (wc := []) (plc := va_pl L _) [.int (iI (c 9)), .ref ac] (c_PA_area (cx_l X) (cx_D X) L _ ap (r.1, r.2.1, r.2.2.1, r.2.2.2.1, r.2.2.2.2 - 1) hin2 ((va_up_ne _ _ (Ne.symm hne)).trans (va_up_self _ _ _))) lk_ST_237 d_ST_takePart_35 rfl (rc_pl hin2 ((va_up_ne _ _ (Ne.symm hne)).trans (va_up_self _ _ _)) rfl rfl) [] ⟨rfl, rfl, Or.inr rfl⟩ [] rfl ⟨⟨by decide, by decide⟩, ⟨by decide, by decide⟩, Nat.le_of_ble_eq_true rfl⟩ ⟨rfl, rfl⟩ ?_
      intro v hv
      subst hv
      dsimp only [Option.toList, List.cons_append, List.nil_append, List.append_nil]
      refine vv_iadd d_ST_takePart_38 ?_
      refine vv_putU hw d_ST_takePart_39 hin fp_ST_173 rfl rfl (Nat.le_of_ble_eq_true rfl) ?_
      dsimp only [List.set]
      refine vv_aload_n d_ST_takePart_42 rfl ?_
      refine vv_get d_ST_takePart_43 0 rfl fl_ST_27 rfl ?_
      refine vv_aload_n d_ST_takePart_46 rfl ?_
      refine vv_dup d_ST_takePart_47 rfl ?_
      refine vv_get d_ST_takePart_48 0 rfl fl_ST_44 rfl ?_
      refine vv_dup_x1 d_ST_takePart_51 rfl rfl ?_
      refine vv_iconst d_ST_takePart_52 ?_
      refine vv_iadd d_ST_takePart_53 ?_
      refine vv_put hw d_ST_takePart_54 0 rfl fp_ST_44 rfl rfl (Nat.le_of_ble_eq_true rfl) ?_
      dsimp only [List.set]
      refine vv_iload_n d_ST_takePart_57 rfl ?_
      refine vv_iast hw d_ST_takePart_58 1 0 rfl rfl (by omega) ?_
      dsimp only [List.set]
      exact vv_vret hA hw hr d_ST_takePart_59 (by decide) (by decide) (by exact ⟨rfl, rfl, rfl⟩)
set_option maxHeartbeats 4000000 in
set_option maxRecDepth 100000 in
theorem c_ST_takePart_n (l : Launch) (D : va_G) (x qsh qpa qcu qtk qrs qt ql : Nat) (S le nS nP nC nT nR rn : Int) (cI : ClassId) (ac ap : Nat) (q : Int) (tk c : Nat → Int) (r : pa_T) (L : List Nat) (f : Nat → va_E) (hin : ac ∈ L) (hat : f ac = ob_CS c) (hin2 : ap ∈ L) (hat2 : f ap = ob_PA r) (hlf : r.2.2.2.2 ≤ 1000000 ∧ -1000000 ≤ r.2.2.2.2) (hp : r.2.2.2.2 ≤ 0) : CM l y_ST_takePart b_ST_takePart 4 none rm_1 [.ref x, .ref ac, .ref ap, .int (iI q)] D [(cI, .int)] ([ob_ST x qsh qpa qcu qtk qrs qt ql S le nS nP nC nT nR rn, ar_I qtk cI 400 tk] ++ va_pl L f) (fun v w1 p1 _ => v = none ∧ w1 = [ob_ST x qsh qpa qcu qtk qrs qt ql S le nS nP nC nT nR rn, ar_I qtk cI 400 tk] ∧ p1 = va_pl L f) := by
  refine cm_of (by decide) (Nat.le_of_ble_eq_true rfl) ?_
  intro X sz hl hr hnm hD hA hw
  subst hD
  have hne : ac ≠ ap := ne_of_f hat hat2 (by decide)
  show VV X (b_ST_takePart, 4, "SheetTrees", rm_1) _ 0 0 [(cI, .int)] [ob_ST x qsh qpa qcu qtk qrs qt ql S le nS nP nC nT nR rn, ar_I qtk cI 400 tk] (va_pl L f) [some (.ref x), some (.ref ac), some (.ref ap), some (.int (iI q))] [] 0
  refine vv_aload_n d_ST_takePart_0 rfl ?_
  refine vv_getP d_ST_takePart_1 hin2 hat2 fl_ST_221 rfl ?_
  refine vv_if_le (tgt := 59) d_ST_takePart_4 (by decide) ⟨by omega, by omega⟩ (fun c4 => ?_) (fun c4 => ?_)
  · skip
    exact vv_vret hA hw hr d_ST_takePart_59 (by decide) (by decide) (by exact ⟨rfl, rfl, rfl⟩)
  · exfalso; omega
set_option maxHeartbeats 4000000 in
set_option maxRecDepth 100000 in
theorem c_ST_keepRest_y (l : Launch) (D : va_G) (x qsh qpa qcu qtk qrs qt ql : Nat) (S le nS nP nC nT nR rn : Int) (cI : ClassId) (q : Int) (rs : Nat → Int) (hq : 0 ≤ q ∧ q < 2147483648) (hle : 1 ≤ le ∧ le ≤ 16) (hp : le ≤ pf_z q 3 ∧ le ≤ pf_z q 4) (hn : 0 ≤ nR ∧ nR < 5120) : CM l y_ST_keepRest b_ST_keepRest 2 none rm_2 [.ref x, .int (iI q)] D [(cI, .int)] ([ob_ST x qsh qpa qcu qtk qrs qt ql S le nS nP nC nT nR rn, ar_I qrs cI 5120 rs] ++ []) (fun v w1 p1 _ => v = none ∧ w1 = [ob_ST x qsh qpa qcu qtk qrs qt ql S le nS nP nC nT (nR + 1) rn, ar_I qrs cI 5120 (va_up rs nR.toNat q)] ∧ p1 = []) := by
  refine cm_of (by decide) (Nat.le_of_ble_eq_true rfl) ?_
  intro X sz hl hr hnm hD hA hw
  subst hD
  show VV X (b_ST_keepRest, 2, "SheetTrees", rm_2) _ 0 0 [(cI, .int)] [ob_ST x qsh qpa qcu qtk qrs qt ql S le nS nP nC nT nR rn, ar_I qrs cI 5120 rs] [] [some (.ref x), some (.int (iI q))] [] 0
  refine vv_iload_n d_ST_keepRest_0 rfl ?_
  refine vv_aload_n d_ST_keepRest_1 rfl ?_
  refine vv_get d_ST_keepRest_2 0 rfl fl_ST_61 rfl ?_
  refine vv_pS (wc := []) (plc := []) [] (c_PI_isAtLeast (cx_l X) (cx_D X) q le hq hle) lk_ST_282 d_ST_keepRest_5 rfl [] ⟨rfl, rfl, Or.inl rfl⟩ [] rfl ⟨⟨by decide, by decide⟩, ⟨by decide, by decide⟩, Nat.le_of_ble_eq_true rfl⟩ ⟨rfl, rfl⟩ ?_
  intro v hv
  subst hv
  dsimp only [Option.toList, List.cons_append, List.nil_append, List.append_nil]
  rw [if_pos hp]
  refine vv_if_eq (tgt := 40) d_ST_keepRest_8 (by decide) ⟨by omega, by omega⟩ (fun c8 => ?_) (fun c8 => ?_)
  · exfalso; omega
  · skip
    refine vv_aload_n d_ST_keepRest_11 rfl ?_
    refine vv_get d_ST_keepRest_12 0 rfl fl_ST_47 rfl ?_
    refine vv_aload_n d_ST_keepRest_15 rfl ?_
    refine vv_get d_ST_keepRest_16 0 rfl fl_ST_31 rfl ?_
    refine vv_alen d_ST_keepRest_19 1 0 rfl rfl (v := 5120) rfl ?_
    refine vv_icmp_ge (tgt := 40) d_ST_keepRest_20 (by decide) ⟨by omega, by omega⟩ (fun c20 => ?_) (fun c20 => ?_)
    · exfalso; omega
    · skip
      refine vv_aload_n d_ST_keepRest_23 rfl ?_
      refine vv_get d_ST_keepRest_24 0 rfl fl_ST_31 rfl ?_
      refine vv_aload_n d_ST_keepRest_27 rfl ?_
      refine vv_dup d_ST_keepRest_28 rfl ?_
      refine vv_get d_ST_keepRest_29 0 rfl fl_ST_47 rfl ?_
      refine vv_dup_x1 d_ST_keepRest_32 rfl rfl ?_
      refine vv_iconst d_ST_keepRest_33 ?_
      refine vv_iadd d_ST_keepRest_34 ?_
      refine vv_put hw d_ST_keepRest_35 0 rfl fp_ST_47 rfl rfl (Nat.le_of_ble_eq_true rfl) ?_
      dsimp only [List.set]
      refine vv_iload_n d_ST_keepRest_38 rfl ?_
      refine vv_iast hw d_ST_keepRest_39 1 0 rfl rfl (by omega) ?_
      dsimp only [List.set]
      exact vv_vret hA hw hr d_ST_keepRest_40 (by decide) (by decide) (by exact ⟨rfl, rfl, rfl⟩)
set_option maxHeartbeats 4000000 in
set_option maxRecDepth 100000 in
theorem c_ST_keepRest_n (l : Launch) (D : va_G) (x qsh qpa qcu qtk qrs qt ql : Nat) (S le nS nP nC nT nR rn : Int) (cI : ClassId) (q : Int) (rs : Nat → Int) (hq : 0 ≤ q ∧ q < 2147483648) (hle : 1 ≤ le ∧ le ≤ 16) (hp : ¬ (le ≤ pf_z q 3 ∧ le ≤ pf_z q 4)) : CM l y_ST_keepRest b_ST_keepRest 2 none rm_2 [.ref x, .int (iI q)] D [(cI, .int)] ([ob_ST x qsh qpa qcu qtk qrs qt ql S le nS nP nC nT nR rn, ar_I qrs cI 5120 rs] ++ []) (fun v w1 p1 _ => v = none ∧ w1 = [ob_ST x qsh qpa qcu qtk qrs qt ql S le nS nP nC nT nR rn, ar_I qrs cI 5120 rs] ∧ p1 = []) := by
  refine cm_of (by decide) (Nat.le_of_ble_eq_true rfl) ?_
  intro X sz hl hr hnm hD hA hw
  subst hD
  show VV X (b_ST_keepRest, 2, "SheetTrees", rm_2) _ 0 0 [(cI, .int)] [ob_ST x qsh qpa qcu qtk qrs qt ql S le nS nP nC nT nR rn, ar_I qrs cI 5120 rs] [] [some (.ref x), some (.int (iI q))] [] 0
  refine vv_iload_n d_ST_keepRest_0 rfl ?_
  refine vv_aload_n d_ST_keepRest_1 rfl ?_
  refine vv_get d_ST_keepRest_2 0 rfl fl_ST_61 rfl ?_
  refine vv_pS (wc := []) (plc := []) [] (c_PI_isAtLeast (cx_l X) (cx_D X) q le hq hle) lk_ST_282 d_ST_keepRest_5 rfl [] ⟨rfl, rfl, Or.inl rfl⟩ [] rfl ⟨⟨by decide, by decide⟩, ⟨by decide, by decide⟩, Nat.le_of_ble_eq_true rfl⟩ ⟨rfl, rfl⟩ ?_
  intro v hv
  subst hv
  dsimp only [Option.toList, List.cons_append, List.nil_append, List.append_nil]
  rw [if_neg hp]
  refine vv_if_eq (tgt := 40) d_ST_keepRest_8 (by decide) ⟨by omega, by omega⟩ (fun c8 => ?_) (fun c8 => ?_)
  · skip
    exact vv_vret hA hw hr d_ST_keepRest_40 (by decide) (by decide) (by exact ⟨rfl, rfl, rfl⟩)
  · exfalso; omega
def al_z (u m : Int) : Int := (iI u &&& (iI m ^^^ iI (-1))).toInt
def fa_at (Cs : Nat → Nat → Int) (sh W : Int) : Nat → Nat → Nat
  | 0, i => i
  | n + 1, i => if Cs i 0 = sh ∧ al_z (Cs i 6) W = 0 then i else fa_at Cs sh W n (i + 1)
set_option maxHeartbeats 4000000 in
set_option maxRecDepth 100000 in
theorem c_ST_firstAlike (l : Launch) (D : va_G) (x qsh qpa qcu qtk qrs qt ql qs qc nC : Nat) (S le nS nP nT nR rn K W F : Int) (cI cC : ClassId) (fC : Nat → Option Nat) (L : List Nat) (f : Nat → va_E) (aC : Nat → Nat) (Cs : Nat → Nat → Int) (j : Nat) (hj : j < 20) (hnC : nC ≤ 20) (hfC : ∀ i : Nat, i < 20 → fC i = some (aC i)) (hCC : CC L f aC Cs) (hb : ∀ i : Nat, i < 20 → -2147483648 ≤ Cs i 0 ∧ Cs i 0 < 2147483648) : CP l y_ST_firstAlike b_ST_firstAlike 5 (some .int) rm_0 [.ref x, .ref (aC j)] D [(cI, .int), (cC, .object "SheetTrees$CutSheet")] ([ob_ST x qsh qpa qcu qtk qrs qt ql S le nS nP (nC : Int) nT nR rn, ar_Q qcu cC 20 fC, ob_TB qt qs qc K W F] ++ va_pl L f) (fun v => v = some (.int (iI ((fa_at Cs (Cs j 0) W nC 0 : Nat) : Int)))) := by
  refine cp_of (by decide) (Nat.le_of_ble_eq_true rfl) ?_
  intro X sz hl hr hD hA
  subst hD
  obtain ⟨hinj, hatj⟩ := hCC j hj
  have hbj := hb j hj
  have loop : ∀ fin : Nat, fa_at Cs (Cs j 0) W nC 0 = fin → ∀ m i : Nat, i + m = nC → fa_at Cs (Cs j 0) W m i = fin → VV X (b_ST_firstAlike, 5, "SheetTrees", rm_0) (cr X sz (fun v => v = some (.int (iI ((fa_at Cs (Cs j 0) W nC 0 : Nat) : Int)))) rm_0) 0 0 [(cI, .int), (cC, .object "SheetTrees$CutSheet")] [ob_ST x qsh qpa qcu qtk qrs qt ql S le nS nP (nC : Int) nT nR rn, ar_Q qcu cC 20 fC, ob_TB qt qs qc K W F] (va_pl L f) [some (.ref x), some (.ref (aC j)), some (.int (iI W)), some (.int (iI (i : Int))), none] [] 10 := by
    intro fin hfin m
    induction m with
    | zero =>
      intro i hi he
      unfold fa_at at he
      refine vv_iload_n d_ST_firstAlike_10 rfl ?_
      refine vv_aload_n d_ST_firstAlike_11 rfl ?_
      refine vv_get d_ST_firstAlike_12 0 rfl fl_ST_41 rfl ?_
      refine vv_icmp_ge (tgt := 67) d_ST_firstAlike_15 (by decide) ⟨by omega, by omega⟩ (fun c15 => ?_) (fun c15 => ?_)
      · skip
        refine vv_aload_n d_ST_firstAlike_67 rfl ?_
        refine vv_get d_ST_firstAlike_68 0 rfl fl_ST_41 rfl ?_
        exact vp_iret hA hr d_ST_firstAlike_71 (by decide) (by decide) (by rw [hfin, ← he, show i = nC by omega])
      · exfalso; omega
    | succ m ih =>
      intro i hi he
      unfold fa_at at he
      have hi20 : i < 20 := by omega
      obtain ⟨hin, hat⟩ := hCC i hi20
      have hbi := hb i hi20
      have hz1 := iI_lo (iI (Cs i 6) &&& (iI W ^^^ iI (-1)))
      have hz2 := iI_hi (iI (Cs i 6) &&& (iI W ^^^ iI (-1)))
      refine vv_iload_n d_ST_firstAlike_10 rfl ?_
      refine vv_aload_n d_ST_firstAlike_11 rfl ?_
      refine vv_get d_ST_firstAlike_12 0 rfl fl_ST_41 rfl ?_
      refine vv_icmp_ge (tgt := 67) d_ST_firstAlike_15 (by decide) ⟨by omega, by omega⟩ (fun c15 => ?_) (fun c15 => ?_)
      · exfalso; omega
      · skip
        refine vv_iload_n d_ST_firstAlike_18 rfl ?_
        refine vv_aload_n d_ST_firstAlike_19 rfl ?_
        refine vv_get d_ST_firstAlike_20 0 rfl fl_ST_23 rfl ?_
        refine vv_alen d_ST_firstAlike_23 1 1 rfl rfl (v := 20) rfl ?_
        refine vv_icmp_ge (tgt := 67) d_ST_firstAlike_24 (by decide) ⟨by omega, by omega⟩ (fun c24 => ?_) (fun c24 => ?_)
        · exfalso; omega
        · skip
          refine vv_aload_n d_ST_firstAlike_27 rfl ?_
          refine vv_get d_ST_firstAlike_28 0 rfl fl_ST_23 rfl ?_
          refine vv_iload_n d_ST_firstAlike_31 rfl ?_
          refine vv_aald d_ST_firstAlike_32 1 1 rfl rfl (by omega) (show fC ((i : Int).toNat) = some (aC i) by rw [Int.toNat_natCast]; exact hfC i hi20) ?_
          refine vv_astore d_ST_firstAlike_33 rfl (by decide) ?_
          dsimp only [List.set]
          refine vv_aload d_ST_firstAlike_35 rfl ?_
          refine vv_getP d_ST_firstAlike_37 hin hat fl_ST_169 rfl ?_
          refine vv_aload_n d_ST_firstAlike_40 rfl ?_
          refine vv_getP d_ST_firstAlike_41 hinj hatj fl_ST_169 rfl ?_
          refine vv_icmp_ne (tgt := 61) d_ST_firstAlike_44 (by decide) ⟨by omega, by omega⟩ (fun c44 => ?_) (fun c44 => ?_)
          · skip
            refine vv_iinc d_ST_firstAlike_61 rfl rfl (by decide) ?_
            dsimp only [List.set]
            refine vv_goto (tgt := 10) d_ST_firstAlike_64 (by decide) ?_
            rw [if_neg (by omega)] at he
            exact vv_le (by repeat (first | exact lo_le_nil _ | refine lo_le_cons _ ?_ | refine lo_le_none _ ?_)) (ih (i + 1) (by omega) he)
          · skip
            refine vv_aload d_ST_firstAlike_47 rfl ?_
            refine vv_getP d_ST_firstAlike_49 hin hat fl_ST_289 rfl ?_
            refine vv_iload_n d_ST_firstAlike_52 rfl ?_
            refine vv_iconst d_ST_firstAlike_53 ?_
            refine vv_ixor d_ST_firstAlike_54 rfl ?_
            refine vv_iand d_ST_firstAlike_55 (v := iI (al_z (Cs i 6) W)) (iI_self _).symm ?_
            refine vv_if_ne (tgt := 61) d_ST_firstAlike_56 (by decide) ⟨by unfold al_z; omega, by unfold al_z; omega⟩ (fun c56 => ?_) (fun c56 => ?_)
            · skip
              refine vv_iinc d_ST_firstAlike_61 rfl rfl (by decide) ?_
              dsimp only [List.set]
              refine vv_goto (tgt := 10) d_ST_firstAlike_64 (by decide) ?_
              rw [if_neg (by omega)] at he
              exact vv_le (by repeat (first | exact lo_le_nil _ | refine lo_le_cons _ ?_ | refine lo_le_none _ ?_)) (ih (i + 1) (by omega) he)
            · skip
              refine vv_iload_n d_ST_firstAlike_59 rfl ?_
              rw [if_pos ⟨by omega, by omega⟩] at he
              exact vp_iret hA hr d_ST_firstAlike_60 (by decide) (by decide) (by rw [hfin, ← he])
  show VV X (b_ST_firstAlike, 5, "SheetTrees", rm_0) _ 0 0 [(cI, .int), (cC, .object "SheetTrees$CutSheet")] [ob_ST x qsh qpa qcu qtk qrs qt ql S le nS nP (nC : Int) nT nR rn, ar_Q qcu cC 20 fC, ob_TB qt qs qc K W F] (va_pl L f) [some (.ref x), some (.ref (aC j)), none, none, none] [] 0
  refine vv_aload_n d_ST_firstAlike_0 rfl ?_
  refine vv_get d_ST_firstAlike_1 0 rfl fl_ST_69 rfl ?_
  refine vv_get d_ST_firstAlike_4 2 rfl fl_ST_286 rfl ?_
  refine vv_istore_n d_ST_firstAlike_7 rfl (by decide) ?_
  dsimp only [List.set]
  refine vv_iconst d_ST_firstAlike_8 ?_
  refine vv_istore_n d_ST_firstAlike_9 rfl (by decide) ?_
  dsimp only [List.set]
  exact loop _ rfl nC 0 (by omega) rfl
set_option maxHeartbeats 4000000 in
set_option maxRecDepth 100000 in
theorem c_ST_partsTold (l : Launch) (D : va_G) (x qsh qpa qcu qtk qrs qt ql nP : Nat) (S le nS nC nT nR rn : Int) (cP : ClassId) (fP : Nat → Option Nat) (L : List Nat) (f : Nat → va_E) (aP : Nat → Nat) (R : Nat → pa_T) (hnP : nP ≤ 8) (hfP : ∀ i : Nat, i < 8 → fP i = some (aP i)) (hPP : PP L f aP R) (hb : ∀ i : Nat, i < 8 → 0 ≤ (R i).2.2.2.1 ∧ (R i).2.2.2.1 ≤ 1000000) : CP l y_ST_partsTold b_ST_partsTold 3 (some .int) rm_0 [.ref x] D [(cP, .object "SheetTrees$Part")] ([ob_ST x qsh qpa qcu qtk qrs qt ql S le nS (nP : Int) nC nT nR rn, ar_Q qpa cP 8 fP] ++ va_pl L f) (fun v => v = some (.int (iI ((pu_m (fun p => (R p).2.2.2.1) nP : Nat) : Int)))) := by
  refine cp_of (by decide) (Nat.le_of_ble_eq_true rfl) ?_
  intro X sz hl hr hD hA
  subst hD
  have loop : ∀ m i : Nat, i + m = nP → VV X (b_ST_partsTold, 3, "SheetTrees", rm_0) (cr X sz (fun v => v = some (.int (iI ((pu_m (fun p => (R p).2.2.2.1) nP : Nat) : Int)))) rm_0) 0 0 [(cP, .object "SheetTrees$Part")] [ob_ST x qsh qpa qcu qtk qrs qt ql S le nS (nP : Int) nC nT nR rn, ar_Q qpa cP 8 fP] (va_pl L f) [some (.ref x), some (.int (iI ((pu_m (fun p => (R p).2.2.2.1) i : Nat) : Int))), some (.int (iI (i : Int)))] [] 4 := by
    intro m
    induction m with
    | zero =>
      intro i hi
      refine vv_iload_n d_ST_partsTold_4 rfl ?_
      refine vv_aload_n d_ST_partsTold_5 rfl ?_
      refine vv_get d_ST_partsTold_6 0 rfl fl_ST_38 rfl ?_
      refine vv_icmp_ge (tgt := 49) d_ST_partsTold_9 (by decide) ⟨by omega, by omega⟩ (fun c9 => ?_) (fun c9 => ?_)
      · skip
        refine vv_iload_n d_ST_partsTold_49 rfl ?_
        exact vp_iret hA hr d_ST_partsTold_50 (by decide) (by decide) (by rw [show i = nP by omega])
      · exfalso; omega
    | succ m ih =>
      intro i hi
      have hi8 : i < 8 := by omega
      obtain ⟨hin, hat⟩ := hPP i hi8
      have h1 := hb i hi8
      refine vv_iload_n d_ST_partsTold_4 rfl ?_
      refine vv_aload_n d_ST_partsTold_5 rfl ?_
      refine vv_get d_ST_partsTold_6 0 rfl fl_ST_38 rfl ?_
      refine vv_icmp_ge (tgt := 49) d_ST_partsTold_9 (by decide) ⟨by omega, by omega⟩ (fun c9 => ?_) (fun c9 => ?_)
      · exfalso; omega
      · skip
        refine vv_iload_n d_ST_partsTold_12 rfl ?_
        refine vv_aload_n d_ST_partsTold_13 rfl ?_
        refine vv_get d_ST_partsTold_14 0 rfl fl_ST_17 rfl ?_
        refine vv_alen d_ST_partsTold_17 1 0 rfl rfl (v := 8) rfl ?_
        refine vv_icmp_ge (tgt := 49) d_ST_partsTold_18 (by decide) ⟨by omega, by omega⟩ (fun c18 => ?_) (fun c18 => ?_)
        · exfalso; omega
        · skip
          refine vv_iload_n d_ST_partsTold_21 rfl ?_
          refine vv_aload_n d_ST_partsTold_22 rfl ?_
          refine vv_get d_ST_partsTold_23 0 rfl fl_ST_17 rfl ?_
          refine vv_iload_n d_ST_partsTold_26 rfl ?_
          refine vv_aald d_ST_partsTold_27 1 0 rfl rfl (by omega) (show fP ((i : Int).toNat) = some (aP i) by rw [Int.toNat_natCast]; exact hfP i hi8) ?_
          refine vv_getP d_ST_partsTold_28 hin hat fl_ST_130 rfl ?_
          refine vv_if_le (tgt := 40) d_ST_partsTold_31 (by decide) ⟨by omega, by omega⟩ (fun c31 => ?_) (fun c31 => ?_)
          · skip
            refine vv_iconst d_ST_partsTold_40 ?_
            refine vv_ior d_ST_partsTold_41 (ia_or (pu_m (fun p => (R p).2.2.2.1) i) 0) ?_
            refine vv_istore_n d_ST_partsTold_42 rfl (by decide) ?_
            dsimp only [List.set]
            refine vv_iinc d_ST_partsTold_43 rfl rfl (by decide) ?_
            dsimp only [List.set]
            refine vv_goto (tgt := 4) d_ST_partsTold_46 (by decide) ?_
            have h9 := ih (i + 1) (by omega)
            rw [show pu_m (fun p => (R p).2.2.2.1) (i + 1) = pu_m (fun p => (R p).2.2.2.1) i ||| 0 by show pu_m (fun p => (R p).2.2.2.1) i ||| (if 0 < (fun p => (R p).2.2.2.1) i then 2 ^ i else 0) = _; rw [if_neg (by show ¬ 0 < (R i).2.2.2.1; omega)]] at h9
            exact h9
          · skip
            refine vv_iconst d_ST_partsTold_34 ?_
            refine vv_iload_n d_ST_partsTold_35 rfl ?_
            refine vv_ishl d_ST_partsTold_36 (ia_one (by omega)) ?_
            refine vv_goto (tgt := 41) d_ST_partsTold_37 (by decide) ?_
            refine vv_ior d_ST_partsTold_41 (ia_or (pu_m (fun p => (R p).2.2.2.1) i) (2 ^ i)) ?_
            refine vv_istore_n d_ST_partsTold_42 rfl (by decide) ?_
            dsimp only [List.set]
            refine vv_iinc d_ST_partsTold_43 rfl rfl (by decide) ?_
            dsimp only [List.set]
            refine vv_goto (tgt := 4) d_ST_partsTold_46 (by decide) ?_
            have h9 := ih (i + 1) (by omega)
            rw [show pu_m (fun p => (R p).2.2.2.1) (i + 1) = pu_m (fun p => (R p).2.2.2.1) i ||| 2 ^ i by show pu_m (fun p => (R p).2.2.2.1) i ||| (if 0 < (fun p => (R p).2.2.2.1) i then 2 ^ i else 0) = _; rw [if_pos (by show 0 < (R i).2.2.2.1; omega)]] at h9
            exact h9
  show VV X (b_ST_partsTold, 3, "SheetTrees", rm_0) _ 0 0 [(cP, .object "SheetTrees$Part")] [ob_ST x qsh qpa qcu qtk qrs qt ql S le nS (nP : Int) nC nT nR rn, ar_Q qpa cP 8 fP] (va_pl L f) [some (.ref x), none, none] [] 0
  refine vv_iconst d_ST_partsTold_0 ?_
  refine vv_istore_n d_ST_partsTold_1 rfl (by decide) ?_
  dsimp only [List.set]
  refine vv_iconst d_ST_partsTold_2 ?_
  refine vv_istore_n d_ST_partsTold_3 rfl (by decide) ?_
  dsimp only [List.set]
  exact loop nP 0 (by omega)
set_option maxHeartbeats 4000000 in
set_option maxRecDepth 100000 in
theorem c_ST_partsStillWanted (l : Launch) (D : va_G) (x qsh qpa qcu qtk qrs qt ql nP : Nat) (S le nS nC nT nR rn : Int) (cP : ClassId) (fP : Nat → Option Nat) (L : List Nat) (f : Nat → va_E) (aP : Nat → Nat) (R : Nat → pa_T) (hnP : nP ≤ 8) (hfP : ∀ i : Nat, i < 8 → fP i = some (aP i)) (hPP : PP L f aP R) (hb : ∀ i : Nat, i < 8 → 0 ≤ (R i).2.2.2.2 ∧ (R i).2.2.2.2 ≤ 1000000) : CP l y_ST_partsStillWanted b_ST_partsStillWanted 3 (some .int) rm_0 [.ref x] D [(cP, .object "SheetTrees$Part")] ([ob_ST x qsh qpa qcu qtk qrs qt ql S le nS (nP : Int) nC nT nR rn, ar_Q qpa cP 8 fP] ++ va_pl L f) (fun v => v = some (.int (iI ((pu_m (fun p => (R p).2.2.2.2) nP : Nat) : Int)))) := by
  refine cp_of (by decide) (Nat.le_of_ble_eq_true rfl) ?_
  intro X sz hl hr hD hA
  subst hD
  have loop : ∀ m i : Nat, i + m = nP → VV X (b_ST_partsStillWanted, 3, "SheetTrees", rm_0) (cr X sz (fun v => v = some (.int (iI ((pu_m (fun p => (R p).2.2.2.2) nP : Nat) : Int)))) rm_0) 0 0 [(cP, .object "SheetTrees$Part")] [ob_ST x qsh qpa qcu qtk qrs qt ql S le nS (nP : Int) nC nT nR rn, ar_Q qpa cP 8 fP] (va_pl L f) [some (.ref x), some (.int (iI ((pu_m (fun p => (R p).2.2.2.2) i : Nat) : Int))), some (.int (iI (i : Int)))] [] 4 := by
    intro m
    induction m with
    | zero =>
      intro i hi
      refine vv_iload_n d_ST_partsStillWanted_4 rfl ?_
      refine vv_aload_n d_ST_partsStillWanted_5 rfl ?_
      refine vv_get d_ST_partsStillWanted_6 0 rfl fl_ST_38 rfl ?_
      refine vv_icmp_ge (tgt := 49) d_ST_partsStillWanted_9 (by decide) ⟨by omega, by omega⟩ (fun c9 => ?_) (fun c9 => ?_)
      · skip
        refine vv_iload_n d_ST_partsStillWanted_49 rfl ?_
        exact vp_iret hA hr d_ST_partsStillWanted_50 (by decide) (by decide) (by rw [show i = nP by omega])
      · exfalso; omega
    | succ m ih =>
      intro i hi
      have hi8 : i < 8 := by omega
      obtain ⟨hin, hat⟩ := hPP i hi8
      have h1 := hb i hi8
      refine vv_iload_n d_ST_partsStillWanted_4 rfl ?_
      refine vv_aload_n d_ST_partsStillWanted_5 rfl ?_
      refine vv_get d_ST_partsStillWanted_6 0 rfl fl_ST_38 rfl ?_
      refine vv_icmp_ge (tgt := 49) d_ST_partsStillWanted_9 (by decide) ⟨by omega, by omega⟩ (fun c9 => ?_) (fun c9 => ?_)
      · exfalso; omega
      · skip
        refine vv_iload_n d_ST_partsStillWanted_12 rfl ?_
        refine vv_aload_n d_ST_partsStillWanted_13 rfl ?_
        refine vv_get d_ST_partsStillWanted_14 0 rfl fl_ST_17 rfl ?_
        refine vv_alen d_ST_partsStillWanted_17 1 0 rfl rfl (v := 8) rfl ?_
        refine vv_icmp_ge (tgt := 49) d_ST_partsStillWanted_18 (by decide) ⟨by omega, by omega⟩ (fun c18 => ?_) (fun c18 => ?_)
        · exfalso; omega
        · skip
          refine vv_iload_n d_ST_partsStillWanted_21 rfl ?_
          refine vv_aload_n d_ST_partsStillWanted_22 rfl ?_
          refine vv_get d_ST_partsStillWanted_23 0 rfl fl_ST_17 rfl ?_
          refine vv_iload_n d_ST_partsStillWanted_26 rfl ?_
          refine vv_aald d_ST_partsStillWanted_27 1 0 rfl rfl (by omega) (show fP ((i : Int).toNat) = some (aP i) by rw [Int.toNat_natCast]; exact hfP i hi8) ?_
          refine vv_getP d_ST_partsStillWanted_28 hin hat fl_ST_221 rfl ?_
          refine vv_if_le (tgt := 40) d_ST_partsStillWanted_31 (by decide) ⟨by omega, by omega⟩ (fun c31 => ?_) (fun c31 => ?_)
          · skip
            refine vv_iconst d_ST_partsStillWanted_40 ?_
            refine vv_ior d_ST_partsStillWanted_41 (ia_or (pu_m (fun p => (R p).2.2.2.2) i) 0) ?_
            refine vv_istore_n d_ST_partsStillWanted_42 rfl (by decide) ?_
            dsimp only [List.set]
            refine vv_iinc d_ST_partsStillWanted_43 rfl rfl (by decide) ?_
            dsimp only [List.set]
            refine vv_goto (tgt := 4) d_ST_partsStillWanted_46 (by decide) ?_
            have h9 := ih (i + 1) (by omega)
            rw [show pu_m (fun p => (R p).2.2.2.2) (i + 1) = pu_m (fun p => (R p).2.2.2.2) i ||| 0 by show pu_m (fun p => (R p).2.2.2.2) i ||| (if 0 < (fun p => (R p).2.2.2.2) i then 2 ^ i else 0) = _; rw [if_neg (by show ¬ 0 < (R i).2.2.2.2; omega)]] at h9
            exact h9
          · skip
            refine vv_iconst d_ST_partsStillWanted_34 ?_
            refine vv_iload_n d_ST_partsStillWanted_35 rfl ?_
            refine vv_ishl d_ST_partsStillWanted_36 (ia_one (by omega)) ?_
            refine vv_goto (tgt := 41) d_ST_partsStillWanted_37 (by decide) ?_
            refine vv_ior d_ST_partsStillWanted_41 (ia_or (pu_m (fun p => (R p).2.2.2.2) i) (2 ^ i)) ?_
            refine vv_istore_n d_ST_partsStillWanted_42 rfl (by decide) ?_
            dsimp only [List.set]
            refine vv_iinc d_ST_partsStillWanted_43 rfl rfl (by decide) ?_
            dsimp only [List.set]
            refine vv_goto (tgt := 4) d_ST_partsStillWanted_46 (by decide) ?_
            have h9 := ih (i + 1) (by omega)
            rw [show pu_m (fun p => (R p).2.2.2.2) (i + 1) = pu_m (fun p => (R p).2.2.2.2) i ||| 2 ^ i by show pu_m (fun p => (R p).2.2.2.2) i ||| (if 0 < (fun p => (R p).2.2.2.2) i then 2 ^ i else 0) = _; rw [if_pos (by show 0 < (R i).2.2.2.2; omega)]] at h9
            exact h9
  show VV X (b_ST_partsStillWanted, 3, "SheetTrees", rm_0) _ 0 0 [(cP, .object "SheetTrees$Part")] [ob_ST x qsh qpa qcu qtk qrs qt ql S le nS (nP : Int) nC nT nR rn, ar_Q qpa cP 8 fP] (va_pl L f) [some (.ref x), none, none] [] 0
  refine vv_iconst d_ST_partsStillWanted_0 ?_
  refine vv_istore_n d_ST_partsStillWanted_1 rfl (by decide) ?_
  dsimp only [List.set]
  refine vv_iconst d_ST_partsStillWanted_2 ?_
  refine vv_istore_n d_ST_partsStillWanted_3 rfl (by decide) ?_
  dsimp only [List.set]
  exact loop nP 0 (by omega)
end
section
/-! SheetTrees: startRun, takePieces -/
def sr_S (Sh : Nat → pa_T) (n : Nat) : Nat → pa_T := fun j => if j < n then ((Sh j).1, (Sh j).2.1, (Sh j).2.2.1, (Sh j).2.2.2.1, (Sh j).2.2.2.1) else Sh j
theorem sr_up (Sh : Nat → pa_T) (n : Nat) : va_up (sr_S Sh n) n ((Sh n).1, (Sh n).2.1, (Sh n).2.2.1, (Sh n).2.2.2.1, (Sh n).2.2.2.1) = sr_S Sh (n + 1) := by
  funext j
  unfold sr_S
  by_cases h1 : j = n
  · subst h1
    rw [va_up_self, if_pos (by omega)]
  · rw [va_up_ne _ _ h1]
    by_cases h2 : j < n
    · rw [if_pos h2, if_pos (by omega)]
    · rw [if_neg h2, if_neg (by omega)]
theorem sr_at (Sh : Nat → pa_T) (n : Nat) : sr_S Sh n n = Sh n := if_neg (by omega)
theorem sr_0 (Sh : Nat → pa_T) : sr_S Sh 0 = Sh := by funext j; exact if_neg (by omega)
set_option maxHeartbeats 4000000 in
set_option maxRecDepth 100000 in
theorem c_ST_startRun (l : Launch) (D : va_G) (x qsh qpa qcu qtk qrs qt ql nS nP : Nat) (S le nC nT nR rn : Int) (cS cP : ClassId) (fS fP : Nat → Option Nat) (L : List Nat) (f : Nat → va_E) (aS aP aC : Nat → Nat) (Sh R : Nat → pa_T) (Cs : Nat → Nat → Int) (hnS : nS ≤ 4) (hnP : nP ≤ 8) (hfS : ∀ i : Nat, i < 4 → fS i = some (aS i)) (hfP : ∀ i : Nat, i < 8 → fP i = some (aP i)) (hPL : PL L f aS aP aC Sh R Cs) (hAD : AD aS aP aC) : CM l y_ST_startRun b_ST_startRun 2 none rm_0 [.ref x] D [(cS, .object "SheetTrees$Sheet"), (cP, .object "SheetTrees$Part")] ([ob_ST x qsh qpa qcu qtk qrs qt ql S le (nS : Int) (nP : Int) nC nT nR rn, ar_Q qsh cS 4 fS, ar_Q qpa cP 8 fP] ++ va_pl L f) (fun v w1 p1 _ => v = none ∧ w1 = [ob_ST x qsh qpa qcu qtk qrs qt ql S le (nS : Int) (nP : Int) 0 0 0 rn, ar_Q qsh cS 4 fS, ar_Q qpa cP 8 fP] ∧ ∃ f9, p1 = va_pl L f9 ∧ PL L f9 aS aP aC (sr_S Sh nS) (sr_S R nP) Cs) := by
  refine cm_of (by decide) (Nat.le_of_ble_eq_true rfl) ?_
  intro X sz hl hr hnm hD hA hw
  subst hD
  have loopP : ∀ m i : Nat, i + m = nP → ∀ f1 : Nat → va_E, PL L f1 aS aP aC (sr_S Sh nS) (sr_S R i) Cs → VV X (b_ST_startRun, 2, "SheetTrees", rm_0) (cq X ([ob_ST x qsh qpa qcu qtk qrs qt ql S le (nS : Int) (nP : Int) nC nT nR rn, ar_Q qsh cS 4 fS, ar_Q qpa cP 8 fP] ++ va_pl L f) sz (fun v w1 p1 _ => v = none ∧ w1 = [ob_ST x qsh qpa qcu qtk qrs qt ql S le (nS : Int) (nP : Int) 0 0 0 rn, ar_Q qsh cS 4 fS, ar_Q qpa cP 8 fP] ∧ ∃ f9, p1 = va_pl L f9 ∧ PL L f9 aS aP aC (sr_S Sh nS) (sr_S R nP) Cs) rm_0) 0 0 [(cS, .object "SheetTrees$Sheet"), (cP, .object "SheetTrees$Part")] [ob_ST x qsh qpa qcu qtk qrs qt ql S le (nS : Int) (nP : Int) 0 0 0 rn, ar_Q qsh cS 4 fS, ar_Q qpa cP 8 fP] (va_pl L f1) [some (.ref x), some (.int (iI (i : Int)))] [] 60 := by
    intro m
    induction m with
    | zero =>
      intro i hi f1 hp
      have hi2 : i = nP := by omega
      subst hi2
      refine vv_iload_n d_ST_startRun_60 rfl ?_
      refine vv_aload_n d_ST_startRun_61 rfl ?_
      refine vv_get d_ST_startRun_62 0 rfl fl_ST_38 rfl ?_
      refine vv_icmp_ge (tgt := 101) d_ST_startRun_65 (by decide) ⟨by omega, by omega⟩ (fun c65 => ?_) (fun c65 => ?_)
      · skip
        exact vv_vret hA hw hr d_ST_startRun_101 (by decide) (by decide) (by exact ⟨rfl, rfl, f1, rfl, hp⟩)
      · exfalso; omega
    | succ m ih =>
      intro i hi f1 hp
      have hi8 : i < 8 := by omega
      obtain ⟨hin, hat⟩ := hp.2.1 i hi8
      have hp2 := PL_P (i := i) (r := ((R i).1, (R i).2.1, (R i).2.2.1, (R i).2.2.2.1, (R i).2.2.2.1)) hp hAD hi8
      rw [sr_up] at hp2
      rw [sr_at] at hat
      refine vv_iload_n d_ST_startRun_60 rfl ?_
      refine vv_aload_n d_ST_startRun_61 rfl ?_
      refine vv_get d_ST_startRun_62 0 rfl fl_ST_38 rfl ?_
      refine vv_icmp_ge (tgt := 101) d_ST_startRun_65 (by decide) ⟨by omega, by omega⟩ (fun c65 => ?_) (fun c65 => ?_)
      · exfalso; omega
      · skip
        refine vv_iload_n d_ST_startRun_68 rfl ?_
        refine vv_aload_n d_ST_startRun_69 rfl ?_
        refine vv_get d_ST_startRun_70 0 rfl fl_ST_17 rfl ?_
        refine vv_alen d_ST_startRun_73 2 1 rfl rfl (v := 8) rfl ?_
        refine vv_icmp_ge (tgt := 101) d_ST_startRun_74 (by decide) ⟨by omega, by omega⟩ (fun c74 => ?_) (fun c74 => ?_)
        · exfalso; omega
        · skip
          refine vv_aload_n d_ST_startRun_77 rfl ?_
          refine vv_get d_ST_startRun_78 0 rfl fl_ST_17 rfl ?_
          refine vv_iload_n d_ST_startRun_81 rfl ?_
          refine vv_aald d_ST_startRun_82 2 1 rfl rfl (by omega) (show fP ((i : Int).toNat) = some (aP i) by rw [Int.toNat_natCast]; exact hfP i hi8) ?_
          refine vv_aload_n d_ST_startRun_83 rfl ?_
          refine vv_get d_ST_startRun_84 0 rfl fl_ST_17 rfl ?_
          refine vv_iload_n d_ST_startRun_87 rfl ?_
          refine vv_aald d_ST_startRun_88 2 1 rfl rfl (by omega) (show fP ((i : Int).toNat) = some (aP i) by rw [Int.toNat_natCast]; exact hfP i hi8) ?_
          refine vv_getP d_ST_startRun_89 hin hat fl_ST_130 rfl ?_
          refine vv_putP hw d_ST_startRun_92 hin hat fp_ST_221 rfl rfl (Nat.le_of_ble_eq_true rfl) ?_
          dsimp only [List.set]
          refine vv_iinc d_ST_startRun_95 rfl rfl (by decide) ?_
          dsimp only [List.set]
          refine vv_goto (tgt := 60) d_ST_startRun_98 (by decide) ?_
          exact ih (i + 1) (by omega) _ hp2
  have loopS : ∀ m i : Nat, i + m = nS → ∀ f1 : Nat → va_E, PL L f1 aS aP aC (sr_S Sh i) R Cs → VV X (b_ST_startRun, 2, "SheetTrees", rm_0) (cq X ([ob_ST x qsh qpa qcu qtk qrs qt ql S le (nS : Int) (nP : Int) nC nT nR rn, ar_Q qsh cS 4 fS, ar_Q qpa cP 8 fP] ++ va_pl L f) sz (fun v w1 p1 _ => v = none ∧ w1 = [ob_ST x qsh qpa qcu qtk qrs qt ql S le (nS : Int) (nP : Int) 0 0 0 rn, ar_Q qsh cS 4 fS, ar_Q qpa cP 8 fP] ∧ ∃ f9, p1 = va_pl L f9 ∧ PL L f9 aS aP aC (sr_S Sh nS) (sr_S R nP) Cs) rm_0) 0 0 [(cS, .object "SheetTrees$Sheet"), (cP, .object "SheetTrees$Part")] [ob_ST x qsh qpa qcu qtk qrs qt ql S le (nS : Int) (nP : Int) 0 0 0 rn, ar_Q qsh cS 4 fS, ar_Q qpa cP 8 fP] (va_pl L f1) [some (.ref x), some (.int (iI (i : Int)))] [] 17 := by
    intro m
    induction m with
    | zero =>
      intro i hi f1 hp
      have hi2 : i = nS := by omega
      subst hi2
      refine vv_iload_n d_ST_startRun_17 rfl ?_
      refine vv_aload_n d_ST_startRun_18 rfl ?_
      refine vv_get d_ST_startRun_19 0 rfl fl_ST_34 rfl ?_
      refine vv_icmp_ge (tgt := 58) d_ST_startRun_22 (by decide) ⟨by omega, by omega⟩ (fun c22 => ?_) (fun c22 => ?_)
      · skip
        refine vv_iconst d_ST_startRun_58 ?_
        refine vv_istore_n d_ST_startRun_59 rfl (by decide) ?_
        dsimp only [List.set]
        exact loopP nP 0 (by omega) f1 (by rw [sr_0]; exact hp)
      · exfalso; omega
    | succ m ih =>
      intro i hi f1 hp
      have hi4 : i < 4 := by omega
      obtain ⟨hin, hat⟩ := hp.1 i hi4
      have hp2 := PL_S (i := i) (r := ((Sh i).1, (Sh i).2.1, (Sh i).2.2.1, (Sh i).2.2.2.1, (Sh i).2.2.2.1)) hp hAD hi4
      rw [sr_up] at hp2
      rw [sr_at] at hat
      refine vv_iload_n d_ST_startRun_17 rfl ?_
      refine vv_aload_n d_ST_startRun_18 rfl ?_
      refine vv_get d_ST_startRun_19 0 rfl fl_ST_34 rfl ?_
      refine vv_icmp_ge (tgt := 58) d_ST_startRun_22 (by decide) ⟨by omega, by omega⟩ (fun c22 => ?_) (fun c22 => ?_)
      · exfalso; omega
      · skip
        refine vv_iload_n d_ST_startRun_25 rfl ?_
        refine vv_aload_n d_ST_startRun_26 rfl ?_
        refine vv_get d_ST_startRun_27 0 rfl fl_ST_11 rfl ?_
        refine vv_alen d_ST_startRun_30 1 0 rfl rfl (v := 4) rfl ?_
        refine vv_icmp_ge (tgt := 58) d_ST_startRun_31 (by decide) ⟨by omega, by omega⟩ (fun c31 => ?_) (fun c31 => ?_)
        · exfalso; omega
        · skip
          refine vv_aload_n d_ST_startRun_34 rfl ?_
          refine vv_get d_ST_startRun_35 0 rfl fl_ST_11 rfl ?_
          refine vv_iload_n d_ST_startRun_38 rfl ?_
          refine vv_aald d_ST_startRun_39 1 0 rfl rfl (by omega) (show fS ((i : Int).toNat) = some (aS i) by rw [Int.toNat_natCast]; exact hfS i hi4) ?_
          refine vv_aload_n d_ST_startRun_40 rfl ?_
          refine vv_get d_ST_startRun_41 0 rfl fl_ST_11 rfl ?_
          refine vv_iload_n d_ST_startRun_44 rfl ?_
          refine vv_aald d_ST_startRun_45 1 0 rfl rfl (by omega) (show fS ((i : Int).toNat) = some (aS i) by rw [Int.toNat_natCast]; exact hfS i hi4) ?_
          refine vv_getP d_ST_startRun_46 hin hat fl_ST_118 rfl ?_
          refine vv_putP hw d_ST_startRun_49 hin hat fp_ST_247 rfl rfl (Nat.le_of_ble_eq_true rfl) ?_
          dsimp only [List.set]
          refine vv_iinc d_ST_startRun_52 rfl rfl (by decide) ?_
          dsimp only [List.set]
          refine vv_goto (tgt := 17) d_ST_startRun_55 (by decide) ?_
          exact ih (i + 1) (by omega) _ hp2
  show VV X (b_ST_startRun, 2, "SheetTrees", rm_0) _ 0 0 [(cS, .object "SheetTrees$Sheet"), (cP, .object "SheetTrees$Part")] [ob_ST x qsh qpa qcu qtk qrs qt ql S le (nS : Int) (nP : Int) nC nT nR rn, ar_Q qsh cS 4 fS, ar_Q qpa cP 8 fP] (va_pl L f) [some (.ref x), none] [] 0
  refine vv_aload_n d_ST_startRun_0 rfl ?_
  refine vv_iconst d_ST_startRun_1 ?_
  refine vv_put hw d_ST_startRun_2 0 rfl fp_ST_41 rfl rfl (Nat.le_of_ble_eq_true rfl) ?_
  dsimp only [List.set]
  refine vv_aload_n d_ST_startRun_5 rfl ?_
  refine vv_iconst d_ST_startRun_6 ?_
  refine vv_put hw d_ST_startRun_7 0 rfl fp_ST_44 rfl rfl (Nat.le_of_ble_eq_true rfl) ?_
  dsimp only [List.set]
  refine vv_aload_n d_ST_startRun_10 rfl ?_
  refine vv_iconst d_ST_startRun_11 ?_
  refine vv_put hw d_ST_startRun_12 0 rfl fp_ST_47 rfl rfl (Nat.le_of_ble_eq_true rfl) ?_
  dsimp only [List.set]
  refine vv_iconst d_ST_startRun_15 ?_
  refine vv_istore_n d_ST_startRun_16 rfl (by decide) ?_
  dsimp only [List.set]
  exact loopS nS 0 (by omega) f (by rw [sr_0]; exact hPL)
end
section
/-! SheetTrees.takePieces -/
/-- taken so far, rests so far, their rows, the parts, the cut sheet -/
abbrev ts_T : Type := Int × Int × (Nat → Int) × (Nat → Int) × (Nat → pa_T) × (Nat → Int)
def ts_k (q : Int) : Nat := (pf_z q 0).toNat
def ts_step (le q : Int) (s : ts_T) : ts_T :=
  if pf_z q 0 = 8 then (if le ≤ pf_z q 3 ∧ le ≤ pf_z q 4 then (s.1, s.2.1 + 1, s.2.2.1, va_up s.2.2.2.1 s.2.1.toNat q, s.2.2.2.2) else s)
  else if pf_z q 0 < 8 then (if 0 < (s.2.2.2.2.1 (ts_k q)).2.2.2.2 then (s.1 + 1, s.2.1, va_up s.2.2.1 s.1.toNat q, s.2.2.2.1, va_up s.2.2.2.2.1 (ts_k q) ((s.2.2.2.2.1 (ts_k q)).1, (s.2.2.2.2.1 (ts_k q)).2.1, (s.2.2.2.2.1 (ts_k q)).2.2.1, (s.2.2.2.2.1 (ts_k q)).2.2.2.1, (s.2.2.2.2.1 (ts_k q)).2.2.2.2 - 1), va_up s.2.2.2.2.2 9 (s.2.2.2.2.2 9 + (s.2.2.2.2.1 (ts_k q)).1 * (s.2.2.2.2.1 (ts_k q)).2.1)) else s)
  else s
def ts_go (le : Int) (ps : Nat → Int) (s : ts_T) : Nat → ts_T
  | 0 => s
  | n + 1 => ts_step le (ps n) (ts_go le ps s n)
def sumL (R : Nat → pa_T) : Nat → Int
  | 0 => 0
  | n + 1 => sumL R n + (R n).2.2.2.2
theorem sumL_ge {R : Nat → pa_T} {k : Nat} {r : pa_T} : ∀ n : Nat, n ≤ k → sumL (va_up R k r) n = sumL R n
  | 0, _ => rfl
  | n + 1, h => by
    show sumL (va_up R k r) n + (va_up R k r n).2.2.2.2 = sumL R n + (R n).2.2.2.2
    rw [sumL_ge n (by omega), va_up_ne _ _ (by omega)]
theorem sumL_up {R : Nat → pa_T} {k : Nat} {r : pa_T} : ∀ n : Nat, k < n → sumL (va_up R k r) n = sumL R n - (R k).2.2.2.2 + r.2.2.2.2
  | 0, h => by omega
  | n + 1, h => by
    show sumL (va_up R k r) n + (va_up R k r n).2.2.2.2 = sumL R n + (R n).2.2.2.2 - (R k).2.2.2.2 + r.2.2.2.2
    by_cases e : k = n
    · subst e
      rw [sumL_ge k (by omega), va_up_self]
      omega
    · rw [sumL_up n (by omega), va_up_ne _ _ (fun q => e q.symm)]
      omega
theorem sumL_pos {R : Nat → pa_T} : ∀ n : Nat, (∀ p, p < n → 0 ≤ (R p).2.2.2.2) → 0 ≤ sumL R n ∧ ∀ k, k < n → (R k).2.2.2.2 ≤ sumL R n
  | 0, _ => ⟨Int.le_refl 0, fun k h => by omega⟩
  | n + 1, h => by
    have ih := sumL_pos n (fun p hp => h p (by omega))
    have h1 := h n (by omega)
    refine ⟨by show 0 ≤ sumL R n + (R n).2.2.2.2; omega, fun k hk => ?_⟩
    show (R k).2.2.2.2 ≤ sumL R n + (R n).2.2.2.2
    by_cases e : k = n
    · subst e
      omega
    · have := ih.2 k (by omega)
      omega
def TS (s : ts_T) : Prop := 0 ≤ s.1 ∧ s.1 + sumL s.2.2.2.2.1 8 ≤ 400 ∧ ∀ p : Nat, p < 8 → 0 ≤ (s.2.2.2.2.1 p).2.2.2.2
theorem pf0 (q : Int) : 0 ≤ pf_z q 0 ∧ pf_z q 0 < 32 := by unfold pf_z; omega
theorem TS_step {le q : Int} {s : ts_T} (h : TS s) : TS (ts_step le q s) ∧ s.2.1 ≤ (ts_step le q s).2.1 ∧ (ts_step le q s).2.1 ≤ s.2.1 + 1 := by
  have h0 := pf0 q
  unfold ts_step
  split
  · split
    · exact ⟨h, by show s.2.1 ≤ s.2.1 + 1; omega, by show s.2.1 + 1 ≤ s.2.1 + 1; omega⟩
    · exact ⟨h, by omega, by omega⟩
  · split
    · rename_i h8
      split
      · rename_i hp
        have hk : ts_k q < 8 := by unfold ts_k; omega
        refine ⟨⟨by show 0 ≤ s.1 + 1; have := h.1; omega, ?_, fun p hp8 => ?_⟩, by show s.2.1 ≤ s.2.1; omega, by show s.2.1 ≤ s.2.1 + 1; omega⟩
        · show s.1 + 1 + sumL (va_up _ _ _) 8 ≤ 400
          rw [sumL_up 8 hk]
          have := h.2.1
          dsimp only
          omega
        · show 0 ≤ (va_up _ _ _ p : pa_T).2.2.2.2
          by_cases e : p = ts_k q
          · subst e
            rw [va_up_self]
            dsimp only
            omega
          · rw [va_up_ne _ _ e]
            exact h.2.2 p hp8
      · exact ⟨h, by omega, by omega⟩
    · exact ⟨h, by omega, by omega⟩
theorem TS_go {le : Int} {ps : Nat → Int} {s : ts_T} (h : TS s) : ∀ n : Nat, TS (ts_go le ps s n) ∧ s.2.1 ≤ (ts_go le ps s n).2.1 ∧ (ts_go le ps s n).2.1 ≤ s.2.1 + n
  | 0 => ⟨h, by show s.2.1 ≤ s.2.1; omega, by show s.2.1 ≤ s.2.1 + ((0 : Nat) : Int); omega⟩
  | n + 1 => by
    obtain ⟨a, b, c⟩ := TS_go (le := le) (ps := ps) h n
    obtain ⟨a2, b2, c2⟩ := TS_step (le := le) (q := ps n) a
    exact ⟨a2, by show s.2.1 ≤ (ts_step le (ps n) (ts_go le ps s n)).2.1; omega, by show (ts_step le (ps n) (ts_go le ps s n)).2.1 ≤ _; omega⟩
def cs_from (c : Nat → Int) (nT nR : Int) : Nat → Int := va_up (va_up c 7 nT) 10 nR
def cs_to (s : ts_T) : Nat → Int := va_up (va_up s.2.2.2.2.2 8 (s.1 - s.2.2.2.2.2 7)) 11 (s.2.1 - s.2.2.2.2.2 10)
set_option maxHeartbeats 4000000 in
set_option maxRecDepth 100000 in
theorem c_ST_takePieces (l : Launch) (D : va_G) (x qsh qpa qcu qtk qrs qt ql qp qo N j : Nat) (S le nS nP nC nT nR rn way : Int) (st : ly_T) (cI cP : ClassId) (tk rs : Nat → Int) (fP : Nat → Option Nat) (L : List Nat) (f : Nat → va_E) (aS aP aC : Nat → Nat) (Sh R : Nat → pa_T) (Cs : Nat → Nat → Int) (hst : st.1 = (N : Int)) (hN : N ≤ 256) (hle : 1 ≤ le ∧ le ≤ 16) (hj : j < 20) (hfP : ∀ i : Nat, i < 8 → fP i = some (aP i)) (hPL : PL L f aS aP aC Sh R Cs) (hAD : AD aS aP aC) (hT : 0 ≤ nT ∧ nT + sumL R 8 ≤ 400) (hlf : ∀ p : Nat, p < 8 → 0 ≤ (R p).2.2.2.2) (hR : 0 ≤ nR ∧ nR + N ≤ 5120) (hps : ∀ i : Nat, i < N → 0 ≤ st.2.2.2.1 i ∧ st.2.2.2.1 i < 2147483648) : CM l y_ST_takePieces b_ST_takePieces 5 none rm_3 [.ref x, .ref (aC j)] D [(cI, .int), (cP, .object "SheetTrees$Part")] ([ob_ST x qsh qpa qcu qtk qrs qt ql S le nS nP nC nT nR rn, ar_Q qpa cP 8 fP, ar_I qtk cI 400 tk, ar_I qrs cI 5120 rs, ob_LY ql qt qp qo way st, ar_I qp cI 256 st.2.2.2.1] ++ va_pl L f) (fun v w1 p1 _ => v = none ∧ w1 = [ob_ST x qsh qpa qcu qtk qrs qt ql S le nS nP nC (ts_go le st.2.2.2.1 (nT, nR, tk, rs, R, cs_from (Cs j) nT nR) N).1 (ts_go le st.2.2.2.1 (nT, nR, tk, rs, R, cs_from (Cs j) nT nR) N).2.1 rn, ar_Q qpa cP 8 fP, ar_I qtk cI 400 (ts_go le st.2.2.2.1 (nT, nR, tk, rs, R, cs_from (Cs j) nT nR) N).2.2.1, ar_I qrs cI 5120 (ts_go le st.2.2.2.1 (nT, nR, tk, rs, R, cs_from (Cs j) nT nR) N).2.2.2.1, ob_LY ql qt qp qo way st, ar_I qp cI 256 st.2.2.2.1] ∧ ∃ f9, p1 = va_pl L f9 ∧ PL L f9 aS aP aC Sh (ts_go le st.2.2.2.1 (nT, nR, tk, rs, R, cs_from (Cs j) nT nR) N).2.2.2.2.1 (va_up Cs j (cs_to (ts_go le st.2.2.2.1 (nT, nR, tk, rs, R, cs_from (Cs j) nT nR) N)))) := by
  refine cm_of (by decide) (Nat.le_of_ble_eq_true rfl) ?_
  intro X sz hl hr hnm hD hA hw
  subst hD
  obtain ⟨hinj, hatj⟩ := hPL.2.2 j hj
  have hTS0 : TS (nT, nR, tk, rs, R, cs_from (Cs j) nT nR) := ⟨hT.1, hT.2, hlf⟩
  have loop : ∀ m i : Nat, i + m = N → ∀ (f1 : Nat → va_E) (s : ts_T), ts_go le st.2.2.2.1 (nT, nR, tk, rs, R, cs_from (Cs j) nT nR) i = s → PL L f1 aS aP aC Sh s.2.2.2.2.1 (va_up Cs j s.2.2.2.2.2) → VV X (b_ST_takePieces, 5, "SheetTrees", rm_3) (cq X ([ob_ST x qsh qpa qcu qtk qrs qt ql S le nS nP nC nT nR rn, ar_Q qpa cP 8 fP, ar_I qtk cI 400 tk, ar_I qrs cI 5120 rs, ob_LY ql qt qp qo way st, ar_I qp cI 256 st.2.2.2.1] ++ va_pl L f) sz (fun v w1 p1 _ => v = none ∧ w1 = [ob_ST x qsh qpa qcu qtk qrs qt ql S le nS nP nC (ts_go le st.2.2.2.1 (nT, nR, tk, rs, R, cs_from (Cs j) nT nR) N).1 (ts_go le st.2.2.2.1 (nT, nR, tk, rs, R, cs_from (Cs j) nT nR) N).2.1 rn, ar_Q qpa cP 8 fP, ar_I qtk cI 400 (ts_go le st.2.2.2.1 (nT, nR, tk, rs, R, cs_from (Cs j) nT nR) N).2.2.1, ar_I qrs cI 5120 (ts_go le st.2.2.2.1 (nT, nR, tk, rs, R, cs_from (Cs j) nT nR) N).2.2.2.1, ob_LY ql qt qp qo way st, ar_I qp cI 256 st.2.2.2.1] ∧ ∃ f9, p1 = va_pl L f9 ∧ PL L f9 aS aP aC Sh (ts_go le st.2.2.2.1 (nT, nR, tk, rs, R, cs_from (Cs j) nT nR) N).2.2.2.2.1 (va_up Cs j (cs_to (ts_go le st.2.2.2.1 (nT, nR, tk, rs, R, cs_from (Cs j) nT nR) N)))) rm_3) 0 0 [(cI, .int), (cP, .object "SheetTrees$Part")] [ob_ST x qsh qpa qcu qtk qrs qt ql S le nS nP nC s.1 s.2.1 rn, ar_Q qpa cP 8 fP, ar_I qtk cI 400 s.2.2.1, ar_I qrs cI 5120 s.2.2.2.1, ob_LY ql qt qp qo way st, ar_I qp cI 256 st.2.2.2.1] (va_pl L f1) [some (.ref x), some (.ref (aC j)), some (.int (iI (i : Int))), none, none] [] 18 := by
    intro m
    induction m with
    | zero =>
      intro i hi f1 s hs hp
      have hi2 : i = N := by omega
      subst hi2
      obtain ⟨hin1, hat1⟩ := hp.2.2 j hj
      rw [va_up_self] at hat1
      have hp2 := PL_C (i := j) (c := cs_to s) hp hAD hj
      rw [bx_uu] at hp2
      refine vv_iload_n d_ST_takePieces_18 rfl ?_
      refine vv_aload_n d_ST_takePieces_19 rfl ?_
      refine vv_get d_ST_takePieces_20 0 rfl fl_ST_78 rfl ?_
      refine vv_get d_ST_takePieces_23 4 rfl fl_ST_269 rfl ?_
      refine vv_icmp_ge (tgt := 102) d_ST_takePieces_26 (by decide) (by rw [hst]; exact ⟨by omega, by omega⟩) (fun c26 => ?_) (fun c26 => ?_)
      · refine vv_enter hat1 ?_
        refine vv_aload_n d_ST_takePieces_102 rfl ?_
        refine vv_aload_n d_ST_takePieces_103 rfl ?_
        refine vv_get d_ST_takePieces_104 0 rfl fl_ST_44 rfl ?_
        refine vv_aload_n d_ST_takePieces_107 rfl ?_
        refine vv_getU d_ST_takePieces_108 hin1 fl_ST_198 rfl ?_
        refine vv_isub d_ST_takePieces_111 ?_
        refine vv_putU hw d_ST_takePieces_112 hin1 fp_ST_172 rfl rfl (Nat.le_of_ble_eq_true rfl) ?_
        dsimp only [List.set]
        refine vv_aload_n d_ST_takePieces_115 rfl ?_
        refine vv_aload_n d_ST_takePieces_116 rfl ?_
        refine vv_get d_ST_takePieces_117 0 rfl fl_ST_47 rfl ?_
        refine vv_aload_n d_ST_takePieces_120 rfl ?_
        refine vv_getU d_ST_takePieces_121 hin1 fl_ST_215 rfl ?_
        refine vv_isub d_ST_takePieces_124 ?_
        refine vv_putU hw d_ST_takePieces_125 hin1 fp_ST_185 rfl rfl (Nat.le_of_ble_eq_true rfl) ?_
        dsimp only [List.set]
        exact vv_vret hA hw hr d_ST_takePieces_128 (by decide) (by decide) ⟨rfl, by rw [hs], _, rfl, by rw [hs]; exact hp2⟩
      · exfalso; omega
    | succ m ih =>
      intro i hi f1 s hs hp
      have hiN : i < N := by omega
      obtain ⟨hT1, hT2, hT3⟩ := TS_go (le := le) (ps := st.2.2.2.1) hTS0 i
      rw [hs] at hT1 hT2 hT3
      have hT3 : s.2.1 ≤ nR + (i : Int) := hT3
      have hT2 : nR ≤ s.2.1 := hT2
      have hq := hps i hiN
      have h9 := ih (i + 1) (by omega)
      have hgo : ts_go le st.2.2.2.1 (nT, nR, tk, rs, R, cs_from (Cs j) nT nR) (i + 1) = ts_step le (st.2.2.2.1 i) s := by rw [← hs]; rfl
      generalize hqq : st.2.2.2.1 i = q at hq hgo
      have hk0 := pf0 q
      refine vv_iload_n d_ST_takePieces_18 rfl ?_
      refine vv_aload_n d_ST_takePieces_19 rfl ?_
      refine vv_get d_ST_takePieces_20 0 rfl fl_ST_78 rfl ?_
      refine vv_get d_ST_takePieces_23 4 rfl fl_ST_269 rfl ?_
      refine vv_icmp_ge (tgt := 102) d_ST_takePieces_26 (by decide) (by rw [hst]; exact ⟨by omega, by omega⟩) (fun c26 => ?_) (fun c26 => ?_)
      · exfalso; omega
      · skip
        refine vv_iload_n d_ST_takePieces_29 rfl ?_
        refine vv_aload_n d_ST_takePieces_30 rfl ?_
        refine vv_get d_ST_takePieces_31 0 rfl fl_ST_78 rfl ?_
        refine vv_get d_ST_takePieces_34 4 rfl fl_ST_272 rfl ?_
        refine vv_alen d_ST_takePieces_37 5 0 rfl rfl (v := 256) rfl ?_
        refine vv_icmp_ge (tgt := 102) d_ST_takePieces_38 (by decide) ⟨by omega, by omega⟩ (fun c38 => ?_) (fun c38 => ?_)
        · exfalso; omega
        · skip
          refine vv_aload_n d_ST_takePieces_41 rfl ?_
          refine vv_get d_ST_takePieces_42 0 rfl fl_ST_78 rfl ?_
          refine vv_get d_ST_takePieces_45 4 rfl fl_ST_272 rfl ?_
          refine vv_iload_n d_ST_takePieces_48 rfl ?_
          refine vv_iald d_ST_takePieces_49 5 0 rfl rfl (by omega) ?_
          rw [Int.toNat_natCast, hqq]
          refine vv_istore_n d_ST_takePieces_50 rfl (by decide) ?_
          dsimp only [List.set]
          refine vv_iload_n d_ST_takePieces_51 rfl ?_
          refine vv_iconst d_ST_takePieces_52 ?_
          refine vv_pS (wc := []) (plc := []) [] (c_PI_field (cx_l X) (cx_D X) q 0 hq (by omega)) lk_ST_205 d_ST_takePieces_53 rfl [] ⟨rfl, rfl, Or.inl rfl⟩ [] rfl ⟨⟨by decide, by decide⟩, ⟨by decide, by decide⟩, Nat.le_of_ble_eq_true rfl⟩ ⟨rfl, rfl⟩ ?_
          intro v hv
          subst hv
          dsimp only [Option.toList, List.cons_append, List.nil_append, List.append_nil]
          refine vv_istore d_ST_takePieces_56 rfl (by decide) ?_
          dsimp only [List.set]
          refine vv_iload d_ST_takePieces_58 rfl ?_
          refine vv_bipush d_ST_takePieces_60 (by decide +kernel) ?_
          refine vv_icmp_ne (tgt := 73) d_ST_takePieces_62 (by decide) ⟨by omega, by omega⟩ (fun c62 => ?_) (fun c62 => ?_)
          · skip
            refine vv_iload d_ST_takePieces_73 rfl ?_
            refine vv_aload_n d_ST_takePieces_75 rfl ?_
            refine vv_get d_ST_takePieces_76 0 rfl fl_ST_17 rfl ?_
            refine vv_alen d_ST_takePieces_79 1 1 rfl rfl (v := 8) rfl ?_
            refine vv_icmp_ge (tgt := 96) d_ST_takePieces_80 (by decide) ⟨by omega, by omega⟩ (fun c80 => ?_) (fun c80 => ?_)
            · skip
              refine vv_iinc d_ST_takePieces_96 rfl rfl (by decide) ?_
              dsimp only [List.set]
              refine vv_goto (tgt := 18) d_ST_takePieces_99 (by decide) ?_
              have e1 : ts_step le q s = s := by unfold ts_step; rw [if_neg c62, if_neg (by omega)]
              rw [e1] at hgo
              exact vv_le (by repeat (first | exact lo_le_nil _ | refine lo_le_cons _ ?_ | refine lo_le_none _ ?_)) (h9 f1 _ hgo hp)
            · skip
              refine vv_aload_n d_ST_takePieces_83 rfl ?_
              refine vv_aload_n d_ST_takePieces_84 rfl ?_
              refine vv_aload_n d_ST_takePieces_85 rfl ?_
              refine vv_get d_ST_takePieces_86 0 rfl fl_ST_17 rfl ?_
              refine vv_iload d_ST_takePieces_89 rfl ?_
              have hk8 : (ts_k q) < 8 := by unfold ts_k; omega
              obtain ⟨hink, hatk⟩ := hp.2.1 (ts_k q) hk8
              obtain ⟨hinc, hatc⟩ := hp.2.2 j hj
              rw [va_up_self] at hatc
              have hsp := sumL_pos (R := s.2.2.2.2.1) 8 hT1.2.2
              have hsk := hsp.2 (ts_k q) hk8
              have hl0 := hT1.2.2 (ts_k q) hk8
              have hs400 := hT1.2.1
              have hs0 := hT1.1
              refine vv_aald d_ST_takePieces_91 1 1 rfl rfl (by omega) (hfP (ts_k q) hk8) ?_
              refine vv_iload_n d_ST_takePieces_92 rfl ?_
              by_cases hr1 : 0 < (s.2.2.2.2.1 (ts_k q)).2.2.2.2
              · refine vv_mV hw (wc := [ob_ST x qsh qpa qcu qtk qrs qt ql S le nS nP nC s.1 s.2.1 rn, ar_I qtk cI 400 s.2.2.1]) (wr := [ar_Q qpa cP 8 fP, ar_I qrs cI 5120 s.2.2.2.1, ob_LY ql qt qp qo way st, ar_I qp cI 256 st.2.2.2.1]) [] (c_ST_takePart_y (cx_l X) (cx_D X) x qsh qpa qcu qtk qrs qt ql S le nS nP nC s.1 s.2.1 rn cI (aC j) (aP (ts_k q)) q s.2.2.1 s.2.2.2.2.2 (s.2.2.2.2.1 (ts_k q)) L f1 hinc hatc hink hatk (by omega) hr1 ⟨hT1.1, by omega⟩) lk_ST_278 d_ST_takePieces_93 rfl (rc_at 0 rfl rfl rfl) [0, 2] [1, 3, 4, 5] ⟨rfl, rfl⟩ ⟨rfl, rfl, by decide⟩ [0] rfl ⟨⟨by decide, by decide⟩, ⟨by decide, by decide⟩, Nat.le_of_ble_eq_true rfl⟩ ⟨rfl, rfl⟩ ?_
                rintro v w1 p1 t1 ⟨rfl, rfl, rfl⟩
                dsimp only [Option.toList, List.cons_append, List.nil_append, List.append_nil]
                refine vv_sub (ws' := [ob_ST x qsh qpa qcu qtk qrs qt ql S le nS nP nC (s.1 + 1, s.2.1, va_up s.2.2.1 s.1.toNat q, s.2.2.2.1, va_up s.2.2.2.2.1 (ts_k q) ((s.2.2.2.2.1 (ts_k q)).1, (s.2.2.2.2.1 (ts_k q)).2.1, (s.2.2.2.2.1 (ts_k q)).2.2.1, (s.2.2.2.2.1 (ts_k q)).2.2.2.1, (s.2.2.2.2.1 (ts_k q)).2.2.2.2 - 1), va_up s.2.2.2.2.2 9 (s.2.2.2.2.2 9 + (s.2.2.2.2.1 (ts_k q)).1 * (s.2.2.2.2.1 (ts_k q)).2.1)).1 (s.1 + 1, s.2.1, va_up s.2.2.1 s.1.toNat q, s.2.2.2.1, va_up s.2.2.2.2.1 (ts_k q) ((s.2.2.2.2.1 (ts_k q)).1, (s.2.2.2.2.1 (ts_k q)).2.1, (s.2.2.2.2.1 (ts_k q)).2.2.1, (s.2.2.2.2.1 (ts_k q)).2.2.2.1, (s.2.2.2.2.1 (ts_k q)).2.2.2.2 - 1), va_up s.2.2.2.2.2 9 (s.2.2.2.2.2 9 + (s.2.2.2.2.1 (ts_k q)).1 * (s.2.2.2.2.1 (ts_k q)).2.1)).2.1 rn, ar_Q qpa cP 8 fP, ar_I qtk cI 400 (s.1 + 1, s.2.1, va_up s.2.2.1 s.1.toNat q, s.2.2.2.1, va_up s.2.2.2.2.1 (ts_k q) ((s.2.2.2.2.1 (ts_k q)).1, (s.2.2.2.2.1 (ts_k q)).2.1, (s.2.2.2.2.1 (ts_k q)).2.2.1, (s.2.2.2.2.1 (ts_k q)).2.2.2.1, (s.2.2.2.2.1 (ts_k q)).2.2.2.2 - 1), va_up s.2.2.2.2.2 9 (s.2.2.2.2.2 9 + (s.2.2.2.2.1 (ts_k q)).1 * (s.2.2.2.2.1 (ts_k q)).2.1)).2.2.1, ar_I qrs cI 5120 (s.1 + 1, s.2.1, va_up s.2.2.1 s.1.toNat q, s.2.2.2.1, va_up s.2.2.2.2.1 (ts_k q) ((s.2.2.2.2.1 (ts_k q)).1, (s.2.2.2.2.1 (ts_k q)).2.1, (s.2.2.2.2.1 (ts_k q)).2.2.1, (s.2.2.2.2.1 (ts_k q)).2.2.2.1, (s.2.2.2.2.1 (ts_k q)).2.2.2.2 - 1), va_up s.2.2.2.2.2 9 (s.2.2.2.2.2 9 + (s.2.2.2.2.1 (ts_k q)).1 * (s.2.2.2.2.1 (ts_k q)).2.1)).2.2.2.1, ob_LY ql qt qp qo way st, ar_I qp cI 256 st.2.2.2.1]) [4, 0, 5, 1, 2, 3] rfl rfl ?_
                refine vv_iinc d_ST_takePieces_96 rfl rfl (by decide) ?_
                dsimp only [List.set]
                refine vv_goto (tgt := 18) d_ST_takePieces_99 (by decide) ?_
                have hp2 := PL_C (i := j) (c := va_up s.2.2.2.2.2 9 (s.2.2.2.2.2 9 + (s.2.2.2.2.1 (ts_k q)).1 * (s.2.2.2.2.1 (ts_k q)).2.1)) (PL_P (i := (ts_k q)) (r := ((s.2.2.2.2.1 (ts_k q)).1, (s.2.2.2.2.1 (ts_k q)).2.1, (s.2.2.2.2.1 (ts_k q)).2.2.1, (s.2.2.2.2.1 (ts_k q)).2.2.2.1, (s.2.2.2.2.1 (ts_k q)).2.2.2.2 - 1)) hp hAD hk8) hAD hj
                rw [bx_uu] at hp2
                have e1 : ts_step le q s = (s.1 + 1, s.2.1, va_up s.2.2.1 s.1.toNat q, s.2.2.2.1, va_up s.2.2.2.2.1 (ts_k q) ((s.2.2.2.2.1 (ts_k q)).1, (s.2.2.2.2.1 (ts_k q)).2.1, (s.2.2.2.2.1 (ts_k q)).2.2.1, (s.2.2.2.2.1 (ts_k q)).2.2.2.1, (s.2.2.2.2.1 (ts_k q)).2.2.2.2 - 1), va_up s.2.2.2.2.2 9 (s.2.2.2.2.2 9 + (s.2.2.2.2.1 (ts_k q)).1 * (s.2.2.2.2.1 (ts_k q)).2.1)) := by unfold ts_step; rw [if_neg c62, if_pos (by omega), if_pos hr1]
                rw [e1] at hgo
                exact vv_le (by repeat (first | exact lo_le_nil _ | refine lo_le_cons _ ?_ | refine lo_le_none _ ?_)) (h9 _ _ hgo hp2)
              · have hr1 : (s.2.2.2.2.1 (ts_k q)).2.2.2.2 ≤ 0 := by omega
                refine vv_mV hw (wc := [ob_ST x qsh qpa qcu qtk qrs qt ql S le nS nP nC s.1 s.2.1 rn, ar_I qtk cI 400 s.2.2.1]) (wr := [ar_Q qpa cP 8 fP, ar_I qrs cI 5120 s.2.2.2.1, ob_LY ql qt qp qo way st, ar_I qp cI 256 st.2.2.2.1]) [] (c_ST_takePart_n (cx_l X) (cx_D X) x qsh qpa qcu qtk qrs qt ql S le nS nP nC s.1 s.2.1 rn cI (aC j) (aP (ts_k q)) q s.2.2.1 s.2.2.2.2.2 (s.2.2.2.2.1 (ts_k q)) L f1 hinc hatc hink hatk (by omega) hr1) lk_ST_278 d_ST_takePieces_93 rfl (rc_at 0 rfl rfl rfl) [0, 2] [1, 3, 4, 5] ⟨rfl, rfl⟩ ⟨rfl, rfl, by decide⟩ [0] rfl ⟨⟨by decide, by decide⟩, ⟨by decide, by decide⟩, Nat.le_of_ble_eq_true rfl⟩ ⟨rfl, rfl⟩ ?_
                rintro v w1 p1 t1 ⟨rfl, rfl, rfl⟩
                dsimp only [Option.toList, List.cons_append, List.nil_append, List.append_nil]
                refine vv_sub (ws' := [ob_ST x qsh qpa qcu qtk qrs qt ql S le nS nP nC s.1 s.2.1 rn, ar_Q qpa cP 8 fP, ar_I qtk cI 400 s.2.2.1, ar_I qrs cI 5120 s.2.2.2.1, ob_LY ql qt qp qo way st, ar_I qp cI 256 st.2.2.2.1]) [4, 0, 5, 1, 2, 3] rfl rfl ?_
                refine vv_iinc d_ST_takePieces_96 rfl rfl (by decide) ?_
                dsimp only [List.set]
                refine vv_goto (tgt := 18) d_ST_takePieces_99 (by decide) ?_
                have e1 : ts_step le q s = s := by unfold ts_step; rw [if_neg c62, if_pos (by omega), if_neg (by omega)]
                rw [e1] at hgo
                exact vv_le (by repeat (first | exact lo_le_nil _ | refine lo_le_cons _ ?_ | refine lo_le_none _ ?_)) (h9 f1 _ hgo hp)
          · skip
            refine vv_aload_n d_ST_takePieces_65 rfl ?_
            refine vv_iload_n d_ST_takePieces_66 rfl ?_
            by_cases hr1 : le ≤ pf_z q 3 ∧ le ≤ pf_z q 4
            · refine vv_nV hw (wc := [ob_ST x qsh qpa qcu qtk qrs qt ql S le nS nP nC s.1 s.2.1 rn, ar_I qrs cI 5120 s.2.2.2.1]) (wr := [ar_Q qpa cP 8 fP, ar_I qtk cI 400 s.2.2.1, ob_LY ql qt qp qo way st, ar_I qp cI 256 st.2.2.2.1]) [] (c_ST_keepRest_y (cx_l X) (cx_D X) x qsh qpa qcu qtk qrs qt ql S le nS nP nC s.1 s.2.1 rn cI q s.2.2.2.1 hq hle hr1 (by omega)) lk_ST_275 d_ST_takePieces_67 rfl (rc_at 0 rfl rfl rfl) [0, 3] [1, 2, 4, 5] ⟨rfl, rfl⟩ ⟨rfl, rfl, by decide⟩ [0] rfl ⟨⟨by decide, by decide⟩, ⟨by decide, by decide⟩, Nat.le_of_ble_eq_true rfl⟩ ⟨rfl, rfl⟩ ?_
              rintro v w1 p1 t1 ⟨rfl, rfl, rfl⟩
              dsimp only [Option.toList, List.cons_append, List.nil_append, List.append_nil]
              refine vv_sub (ws' := [ob_ST x qsh qpa qcu qtk qrs qt ql S le nS nP nC (s.1, s.2.1 + 1, s.2.2.1, va_up s.2.2.2.1 s.2.1.toNat q, s.2.2.2.2).1 (s.1, s.2.1 + 1, s.2.2.1, va_up s.2.2.2.1 s.2.1.toNat q, s.2.2.2.2).2.1 rn, ar_Q qpa cP 8 fP, ar_I qtk cI 400 (s.1, s.2.1 + 1, s.2.2.1, va_up s.2.2.2.1 s.2.1.toNat q, s.2.2.2.2).2.2.1, ar_I qrs cI 5120 (s.1, s.2.1 + 1, s.2.2.1, va_up s.2.2.2.1 s.2.1.toNat q, s.2.2.2.2).2.2.2.1, ob_LY ql qt qp qo way st, ar_I qp cI 256 st.2.2.2.1]) [4, 0, 1, 5, 2, 3] rfl rfl ?_
              refine vv_goto (tgt := 96) d_ST_takePieces_70 (by decide) ?_
              refine vv_iinc d_ST_takePieces_96 rfl rfl (by decide) ?_
              dsimp only [List.set]
              refine vv_goto (tgt := 18) d_ST_takePieces_99 (by decide) ?_
              have e1 : ts_step le q s = (s.1, s.2.1 + 1, s.2.2.1, va_up s.2.2.2.1 s.2.1.toNat q, s.2.2.2.2) := by unfold ts_step; rw [if_pos c62, if_pos hr1]
              rw [e1] at hgo
              exact vv_le (by repeat (first | exact lo_le_nil _ | refine lo_le_cons _ ?_ | refine lo_le_none _ ?_)) (h9 f1 _ hgo hp)
            · refine vv_nV hw (wc := [ob_ST x qsh qpa qcu qtk qrs qt ql S le nS nP nC s.1 s.2.1 rn, ar_I qrs cI 5120 s.2.2.2.1]) (wr := [ar_Q qpa cP 8 fP, ar_I qtk cI 400 s.2.2.1, ob_LY ql qt qp qo way st, ar_I qp cI 256 st.2.2.2.1]) [] (c_ST_keepRest_n (cx_l X) (cx_D X) x qsh qpa qcu qtk qrs qt ql S le nS nP nC s.1 s.2.1 rn cI q s.2.2.2.1 hq hle hr1) lk_ST_275 d_ST_takePieces_67 rfl (rc_at 0 rfl rfl rfl) [0, 3] [1, 2, 4, 5] ⟨rfl, rfl⟩ ⟨rfl, rfl, by decide⟩ [0] rfl ⟨⟨by decide, by decide⟩, ⟨by decide, by decide⟩, Nat.le_of_ble_eq_true rfl⟩ ⟨rfl, rfl⟩ ?_
              rintro v w1 p1 t1 ⟨rfl, rfl, rfl⟩
              dsimp only [Option.toList, List.cons_append, List.nil_append, List.append_nil]
              refine vv_sub (ws' := [ob_ST x qsh qpa qcu qtk qrs qt ql S le nS nP nC s.1 s.2.1 rn, ar_Q qpa cP 8 fP, ar_I qtk cI 400 s.2.2.1, ar_I qrs cI 5120 s.2.2.2.1, ob_LY ql qt qp qo way st, ar_I qp cI 256 st.2.2.2.1]) [4, 0, 1, 5, 2, 3] rfl rfl ?_
              refine vv_goto (tgt := 96) d_ST_takePieces_70 (by decide) ?_
              refine vv_iinc d_ST_takePieces_96 rfl rfl (by decide) ?_
              dsimp only [List.set]
              refine vv_goto (tgt := 18) d_ST_takePieces_99 (by decide) ?_
              have e1 : ts_step le q s = s := by unfold ts_step; rw [if_pos c62, if_neg hr1]
              rw [e1] at hgo
              exact vv_le (by repeat (first | exact lo_le_nil _ | refine lo_le_cons _ ?_ | refine lo_le_none _ ?_)) (h9 f1 _ hgo hp)
  have hp0 := PL_C (i := j) (c := cs_from (Cs j) nT nR) hPL hAD hj
  show VV X (b_ST_takePieces, 5, "SheetTrees", rm_3) _ 0 0 [(cI, .int), (cP, .object "SheetTrees$Part")] [ob_ST x qsh qpa qcu qtk qrs qt ql S le nS nP nC nT nR rn, ar_Q qpa cP 8 fP, ar_I qtk cI 400 tk, ar_I qrs cI 5120 rs, ob_LY ql qt qp qo way st, ar_I qp cI 256 st.2.2.2.1] (va_pl L f) [some (.ref x), some (.ref (aC j)), none, none, none] [] 0
  refine vv_enter hatj ?_
  refine vv_aload_n d_ST_takePieces_0 rfl ?_
  refine vv_aload_n d_ST_takePieces_1 rfl ?_
  refine vv_get d_ST_takePieces_2 0 rfl fl_ST_44 rfl ?_
  refine vv_putU hw d_ST_takePieces_5 hinj fp_ST_198 rfl rfl (Nat.le_of_ble_eq_true rfl) ?_
  dsimp only [List.set]
  refine vv_aload_n d_ST_takePieces_8 rfl ?_
  refine vv_aload_n d_ST_takePieces_9 rfl ?_
  refine vv_get d_ST_takePieces_10 0 rfl fl_ST_47 rfl ?_
  refine vv_putU hw d_ST_takePieces_13 hinj fp_ST_215 rfl rfl (Nat.le_of_ble_eq_true rfl) ?_
  dsimp only [List.set]
  refine vv_iconst d_ST_takePieces_16 ?_
  refine vv_istore_n d_ST_takePieces_17 rfl (by decide) ?_
  dsimp only [List.set]
  exact loop N 0 (by omega) _ (nT, nR, tk, rs, R, cs_from (Cs j) nT nR) rfl hp0
end
section
/-! pure: what choices are, and the budget of a layout -/
abbrev ar_of (R : Nat → pa_T) : Nat → Int := fun p => (R p).1 * (R p).2.1
def bitm (m p : Nat) : Prop := m / 2 ^ p % 2 = 1
def CX (ar : Nat → Int) (m : Nat) (ch : Nat → Int) : Prop := ∀ s d w h : Int, 0 ≤ s → s ≤ 3 → 0 ≤ d → d ≤ 1 → 1 ≤ w → w ≤ 16 → 1 ≤ h → h ≤ 16 → 0 ≤ ch (pl_at s d w h).toNat ∧ (8 < ch (pl_at s d w h).toNat → 1 ≤ s ∧ ch (pl_at s d w h).toNat - 8 < (if d = 0 then w else h)) ∧ (ch (pl_at s d w h).toNat < 8 → bitm m (ch (pl_at s d w h).toNat).toNat ∧ ar (ch (pl_at s d w h).toNat).toNat = w * h)
theorem CX_CI {ar : Nat → Int} {m : Nat} {ch : Nat → Int} (h : CX ar m ch) : CI ch := fun s d w h' a1 a2 a3 a4 a5 a6 a7 a8 => ⟨(h s d w h' a1 a2 a3 a4 a5 a6 a7 a8).1, (h s d w h' a1 a2 a3 a4 a5 a6 a7 a8).2.1⟩
theorem CX_up {ar : Nat → Int} {m : Nat} {ch : Nat → Int} {s d w h v : Int} (hC : CX ar m ch) (hs : 0 ≤ s ∧ s ≤ 3) (hd : 0 ≤ d ∧ d ≤ 1) (hw : 1 ≤ w ∧ w ≤ 16) (hh : 1 ≤ h ∧ h ≤ 16) (hv : 0 ≤ v ∧ (8 < v → 1 ≤ s ∧ v - 8 < (if d = 0 then w else h)) ∧ (v < 8 → bitm m v.toNat ∧ ar v.toNat = w * h)) : CX ar m (va_up ch (pl_at s d w h).toNat v) := by
  intro s' d' w' h' a1 a2 a3 a4 a5 a6 a7 a8
  by_cases e : (pl_at s' d' w' h').toNat = (pl_at s d w h).toNat
  · obtain ⟨e1, e2, e3, e4⟩ := pl_ne ⟨a1, a2⟩ ⟨a3, a4⟩ ⟨by omega, a6⟩ ⟨by omega, a8⟩ hs hd ⟨by omega, hw.2⟩ ⟨by omega, hh.2⟩ e
    subst e1; subst e2; subst e3; subst e4
    rw [va_up_self]
    exact hv
  · rw [va_up_ne _ _ e]
    exact hC s' d' w' h' a1 a2 a3 a4 a5 a6 a7 a8
theorem cz_ch {sc : Nat → Int} {K fb sb st L : Int} {p0 : Int × Int} : ∀ n : Nat, (cz sc K fb sb st L p0 n).2 = p0.2 ∨ ∃ c : Int, 1 ≤ c ∧ c ≤ (n : Int) ∧ (cz sc K fb sb st L p0 n).2 = 8 + c
  | 0 => Or.inl rfl
  | n + 1 => by
    unfold cz
    split
    · exact Or.inr ⟨(n : Int) + 1, by omega, by omega, rfl⟩
    · rcases cz_ch (sc := sc) (K := K) (fb := fb) (sb := sb) (st := st) (L := L) (p0 := p0) n with h | ⟨c, h1, h2, h3⟩
      · exact Or.inl h
      · exact Or.inr ⟨c, h1, by omega, h3⟩
theorem CX_res {ar : Nat → Int} {m : Nat} {sc ch : Nat → Int} {K s d w h : Int} (hC : CX ar m ch) (hs : 1 ≤ s ∧ s ≤ 3) (hd : d = 0 ∨ d = 1) (hw : 1 ≤ w ∧ w ≤ 16) (hh : 1 ≤ h ∧ h ≤ 16) : 0 ≤ (ch_res sc ch K s d w h).2 ∧ (8 < (ch_res sc ch K s d w h).2 → 1 ≤ s ∧ (ch_res sc ch K s d w h).2 - 8 < (if d = 0 then w else h)) ∧ ((ch_res sc ch K s d w h).2 < 8 → bitm m (ch_res sc ch K s d w h).2.toNat ∧ ar (ch_res sc ch K s d w h).2.toNat = w * h) := by
  have key : ∀ (v L : Int), (d = 0 → L = w) → (d = 1 → L = h) → (v = ch (pl_at 0 d w h).toNat ∨ ∃ c : Int, 1 ≤ c ∧ c ≤ (((L - 1).toNat : Nat) : Int) ∧ v = 8 + c) → 0 ≤ v ∧ (8 < v → 1 ≤ s ∧ v - 8 < (if d = 0 then w else h)) ∧ (v < 8 → bitm m v.toNat ∧ ar v.toNat = w * h) := by
    intro v L e0 e1 hv
    have h0 := hC 0 d w h (by omega) (by omega) (by omega) (by omega) hw.1 hw.2 hh.1 hh.2
    rcases hv with rfl | ⟨c, h1, h2, rfl⟩
    · refine ⟨h0.1, fun h8 => ?_, h0.2.2⟩
      have := h0.2.1 h8
      omega
    · refine ⟨by omega, fun _ => ⟨hs.1, ?_⟩, fun h8 => by omega⟩
      split
      · have := e0 (by assumption)
        omega
      · have := e1 (by omega)
        omega
  rcases hd with rfl | rfl
  · unfold ch_res
    rw [if_pos rfl]
    refine key _ w (fun _ => rfl) (fun q => by omega) ?_
    rw [← rd_plc (ch := ch) (s := 0) (d := 0) (w := w) (h := h) (by omega) (by omega) (by omega) (by omega)]
    exact cz_ch _
  · unfold ch_res
    rw [if_neg (by decide)]
    refine key _ h (fun q => by omega) (fun _ => rfl) ?_
    rw [← rd_plc (ch := ch) (s := 0) (d := 1) (w := w) (h := h) (by omega) (by omega) (by omega) (by omega)]
    exact cz_ch _
theorem CX_ch2 {ar : Nat → Int} {m : Nat} {K s w h : Int} {T : tp_T} (hC : CX ar m T.2) (hs : 1 ≤ s ∧ s ≤ 3) (hw : 1 ≤ w ∧ w ≤ 16) (hh : 1 ≤ h ∧ h ≤ 16) : CX ar m (ch_2 K s w h T).2 := by
  have h1 : CX ar m (ch_up K s 0 w h T).2 := CX_up hC (by omega) (by omega) hw hh (CX_res hC hs (Or.inl rfl) hw hh)
  exact CX_up h1 (by omega) (by omega) hw hh (CX_res h1 hs (Or.inr rfl) hw hh)
theorem CX_fsh {ar : Nat → Int} {m : Nat} {K s w : Int} {T : tp_T} (hC : CX ar m T.2) (hs : 1 ≤ s ∧ s ≤ 3) (hw : 1 ≤ w ∧ w ≤ 16) : ∀ n : Nat, n ≤ 16 → CX ar m (fs_h K s w T n).2
  | 0, _ => hC
  | n + 1, hn => CX_ch2 (CX_fsh hC hs hw n (by omega)) hs hw (by omega)
theorem CX_fsw {ar : Nat → Int} {m : Nat} {K s : Int} {T : tp_T} (hC : CX ar m T.2) (hs : 1 ≤ s ∧ s ≤ 3) : ∀ n : Nat, n ≤ 16 → CX ar m (fs_w K s T n).2
  | 0, _ => hC
  | n + 1, hn => CX_fsh (CX_fsw hC hs n (by omega)) hs (by omega) 16 (by omega)
theorem CX_fg {ar : Nat → Int} {m : Nat} {K F : Int} {T : tp_T} (hC : CX ar m T.2) (hF : 0 ≤ F) : ∀ n : Nat, F + n ≤ 3 → CX ar m (fg K F T n).2
  | 0, _ => hC
  | n + 1, hn => CX_fsw (CX_fg hC hF n (by omega)) (by omega) 16 (by omega)
theorem CX_wc0 (ar : Nat → Int) (m : Nat) (T : tp_T) : CX ar m (wc_0 T).2 := by
  intro s d w h a1 a2 a3 a4 a5 a6 a7 a8
  have h1 : (pl_at s d w h).toNat < 2312 := by unfold pl_at; omega
  have e : (wc_0 T).2 (pl_at s d w h).toNat = 8 := if_pos h1
  rw [e]
  exact ⟨by decide, fun q => by omega, fun q => by omega⟩
theorem CX_pp {ar : Nat → Int} {m : Nat} {w h : Int} {p : Nat} {T : tp_T} (hC : CX ar m T.2) (hp : p < 8) (hb : bitm m p) (ha : ar p = w * h) (hw : 1 ≤ w ∧ w ≤ 16) (hh : 1 ≤ h ∧ h ≤ 16) : CX ar m (pp_up p w h T).2 := by
  have hv : ∀ d : Int, 0 ≤ (p : Int) ∧ (8 < (p : Int) → 1 ≤ (0 : Int) ∧ (p : Int) - 8 < (if d = 0 then w else h)) ∧ ((p : Int) < 8 → bitm m (p : Int).toNat ∧ ar (p : Int).toNat = w * h) := fun d => ⟨by omega, fun q => by omega, fun _ => by rw [Int.toNat_natCast]; exact ⟨hb, ha⟩⟩
  exact CX_up (CX_up hC (by omega) (by omega) hw hh (hv 0)) (by omega) (by omega) hw hh (hv 1)
theorem CX_wc {R : Nat → pa_T} {m : Nat} {T : tp_T} (hP : PW R m) : ∀ k : Nat, k ≤ 8 → CX (ar_of R) m (wc_dn R m T k).2
  | 0, _ => CX_wc0 _ _ T
  | k + 1, hk => by
    have ih := CX_wc (T := T) hP k (by omega)
    show CX _ _ (wc_at R m (7 - k) (wc_dn R m T k)).2
    unfold wc_at
    split
    · rename_i hb
      obtain ⟨h1, h2⟩ := hP (7 - k) (by omega) hb
      split
      · exact CX_pp ih (by omega) hb rfl h1 h2
      · exact CX_pp (CX_pp ih (by omega) hb rfl h1 h2) (by omega) hb (Int.mul_comm _ _) h2 h1
    · exact ih
/-- the invariant of the tables that stand -/
def HT (ar : Nat → Int) (W : Int) (T : tp_T) : Prop := ∀ m : Nat, (m : Int) = W → TI T.1 ∧ CX ar m T.2
theorem HT_fl {R : Nat → pa_T} {m : Nat} {K S W F : Int} {T : tp_T} (hK : 0 ≤ K) (hS : 0 ≤ S ∧ S ≤ 3) (hF : 0 ≤ F ∧ F ≤ 3) (hP : PW R m) (hT : HT (ar_of R) W T) : TI (fl_T K R m S W F T).1 ∧ CX (ar_of R) m (fl_T K R m S W F T).2 ∧ 0 ≤ fl_G m S W F ∧ fl_G m S W F ≤ 3 := by
  unfold fl_T fl_T1 fl_G fl_F
  by_cases e : (m : Int) = W
  · simp only [if_pos e]
    exact ⟨TI_fg (hT m e).1 hK hF.1 _ (by omega), CX_fg (hT m e).2 hF.1 _ (by omega), by omega, by omega⟩
  · simp only [if_neg e]
    exact ⟨TI_fg (TI_wc hP 8 (by omega)) hK (by omega) _ (by omega), CX_fg (CX_wc hP 8 (by omega)) (by omega) _ (by omega), by omega, by omega⟩
theorem HT_of {ar : Nat → Int} {m : Nat} {T : tp_T} (h1 : TI T.1) (h2 : CX ar m T.2) : HT ar (m : Int) T := fun k e => by
  have e2 : k = m := by omega
  subst e2
  exact ⟨h1, h2⟩
def wsum (co ar : Nat → Int) : Nat → Int
  | 0 => 0
  | n + 1 => wsum co ar n + co n * ar n
theorem wsum_ge {co ar : Nat → Int} {k : Nat} {v : Int} : ∀ n : Nat, n ≤ k → wsum (va_up co k v) ar n = wsum co ar n
  | 0, _ => rfl
  | n + 1, h => by
    show wsum (va_up co k v) ar n + va_up co k v n * ar n = wsum co ar n + co n * ar n
    rw [wsum_ge n (by omega), va_up_ne _ _ (by omega)]
theorem wsum_up {co ar : Nat → Int} {k : Nat} : ∀ n : Nat, k < n → wsum (va_up co k (co k + 1)) ar n = wsum co ar n + ar k
  | 0, h => by omega
  | n + 1, h => by
    show wsum (va_up co k (co k + 1)) ar n + va_up co k (co k + 1) n * ar n = wsum co ar n + co n * ar n + ar k
    by_cases e : k = n
    · subst e
      rw [wsum_ge k (by omega), va_up_self, Int.add_mul]
      omega
    · rw [wsum_up n (by omega), va_up_ne _ _ (fun q => e q.symm)]
      omega
def LB (ar : Nat → Int) (B : Int) (st : ly_T) : Prop := (0 ≤ st.1 ∧ st.1 ≤ B) ∧ wsum st.2.2.2.2 ar 8 ≤ B ∧ (∀ p : Nat, p < 8 → 0 ≤ st.2.2.2.2 p ∧ st.2.2.2.2 p ≤ B) ∧ ∀ i : Nat, (i : Int) < st.1 → 0 ≤ st.2.2.2.1 i ∧ st.2.2.2.1 i < 2147483648
theorem LB_mono {ar : Nat → Int} {B B' : Int} {st : ly_T} (h : LB ar B st) (hB : B ≤ B') : LB ar B' st := ⟨⟨h.1.1, by have := h.1.2; omega⟩, by have := h.2.1; omega, fun p hp => ⟨(h.2.2.1 p hp).1, by have := (h.2.2.1 p hp).2; omega⟩, h.2.2.2⟩
theorem LB_cut {ar : Nat → Int} {B m : Int} {st : ly_T} (h : LB ar B st) : LB ar B (ly_cut m st) := h
theorem LB_add {ar : Nat → Int} {B k q a : Int} {st : ly_T} (h : LB ar B st) (hk : 0 ≤ k ∧ k ≤ 8) (hq : 0 ≤ q ∧ q < 2147483648) (ha : 1 ≤ a) (har : k < 8 → ar k.toNat = a) (hB : B + a ≤ 256) : LB ar (B + a) (ly_add k q st) := by
  obtain ⟨h1, h2, h3, h4⟩ := h
  have hlt : st.1 < 256 := by omega
  have e1 : (ly_add k q st).1 = st.1 + 1 := if_pos hlt
  have e2 : (ly_add k q st).2.2.2.1 = va_up st.2.2.2.1 st.1.toNat q := if_pos hlt
  unfold LB
  rw [e1, e2]
  refine ⟨by omega, ?_, ?_, ?_⟩
  · by_cases e : k < 8
    · have e3 : (ly_add k q st).2.2.2.2 = va_up st.2.2.2.2 k.toNat (st.2.2.2.2 k.toNat + 1) := if_pos ⟨hk.1, e⟩
      rw [e3, wsum_up 8 (by omega), har e]
      omega
    · have e3 : (ly_add k q st).2.2.2.2 = st.2.2.2.2 := if_neg (fun q => e q.2)
      rw [e3]
      omega
  · intro p hp
    have h3p := h3 p hp
    by_cases e : k < 8
    · have e3 : (ly_add k q st).2.2.2.2 = va_up st.2.2.2.2 k.toNat (st.2.2.2.2 k.toNat + 1) := if_pos ⟨hk.1, e⟩
      rw [e3]
      by_cases e4 : p = k.toNat
      · rw [e4, va_up_self]
        rw [e4] at h3p
        omega
      · rw [va_up_ne _ _ e4]
        omega
    · have e3 : (ly_add k q st).2.2.2.2 = st.2.2.2.2 := if_neg (fun q => e q.2)
      rw [e3]
      omega
  · intro i hi
    by_cases e : i = st.1.toNat
    · rw [e, va_up_self]
      exact hq
    · rw [va_up_ne _ _ e]
      exact h4 i (by omega)
theorem pk_bd {k x y w h : Int} (hk : 0 ≤ k ∧ k ≤ 8) (hok : okp x y w h) : 0 ≤ pk_z k x y w h ∧ pk_z k x y w h < 2147483648 := by
  unfold okp at hok
  unfold pk_z
  omega
theorem LB_go0 {ar : Nat → Int} {m : Nat} {rec : Int → Int → Int → Int → ly_T → ly_T} {ch : Nat → Int} {K s x y w h : Int} (hC : CX ar m ch) (hK : 0 ≤ K) (hs : 0 ≤ s ∧ s ≤ 3) (hok : okp x y w h) (hr : 1 ≤ s → ∀ x y w h st B, okp x y w h → LB ar B st → B + w * h ≤ 256 → LB ar (B + w * h) (rec x y w h st)) : ∀ (n : Nat) (fr B : Int) (st : ly_T), 0 ≤ fr → LB ar B st → (fr < w → B + (w - fr) * h ≤ 256) → LB ar (if fr < w then B + (w - fr) * h else B) (lt0_go rec ch K s x y w h n fr st)
  | 0, fr, B, st, h0, hB, h2 => by
    have hok' := hok
    unfold okp at hok'
    unfold lt0_go
    split
    · rename_i hlt
      refine LB_mono hB ?_
      have := Int.mul_nonneg (a := w - fr) (b := h) (by omega) (by omega)
      omega
    · exact hB
  | n + 1, fr, B, st, h0, hB, h2 => by
    have hok' := hok
    unfold okp at hok'
    unfold lt0_go
    by_cases hlt : fr < w
    · rw [if_pos hlt, if_pos hlt]
      have h2 := h2 hlt
      have e : rd_choiceAt ch (pl_at s 0 (w - fr) h) = ch (pl_at s 0 (w - fr) h).toNat := rd_plc hs (by omega) (by omega) (by omega)
      have hc := hC s 0 (w - fr) h hs.1 hs.2 (by decide) (by decide) (by omega) (by omega) (by omega) (by omega)
      rw [← e] at hc
      have hlen : (if (0 : Int) = 0 then w - fr else h) = w - fr := by exact if_pos rfl
      rw [hlen] at hc
      generalize rd_choiceAt ch (pl_at s 0 (w - fr) h) = c at hc ⊢
      have hokp : okp (x + fr) y (w - fr) h := by unfold okp; omega
      have hal : 1 ≤ (w - fr) * h := by
        have := Int.mul_le_mul (a := 1) (b := 1) (c := w - fr) (d := h) (by omega) (by omega) (by omega) (by omega)
        omega
      split
      · rename_i h8
        have h88 : c ≤ 8 := by
          rcases h8 with h8 | h8
          · exact h8
          · by_cases h9 : 8 < c
            · have := hc.2.1 h9
              omega
            · omega
        exact LB_add hB ⟨hc.1, h88⟩ (pk_bd ⟨hc.1, h88⟩ hokp) hal (fun q => (hc.2.2 q).2) h2
      · rename_i h8
        have hc1 : 8 < c := by omega
        obtain ⟨hs1, hc2⟩ := hc.2.1 hc1
        have hokc : okp (x + fr) y (c - 8) h := by unfold okp; omega
        have m1 := mono_le (b := h) (a := (c - 8)) (x := (w - fr)) (by omega) (by omega)
        have hb1 := hr hs1 _ _ _ _ _ _ hokc (LB_cut (m := h) hB) (by omega)
        have m0 : 0 ≤ (c - 8) * h := Int.mul_nonneg (by omega) (by omega)
        by_cases hl2 : fr + (c - 8 + K) < w
        · have m2 := mono_le (b := h) (a := (w - (fr + (c - 8 + K)))) (x := (w - fr - (c - 8))) (by omega) (by omega)
          have m3 : (c - 8) * h + (w - fr - (c - 8)) * h = (w - fr) * h := by rw [← Int.add_mul]; congr 1; omega
          have ih := LB_go0 hC hK hs hok hr n (fr + (c - 8 + K)) _ _ (by omega) hb1 (fun _ => by omega)
          rw [if_pos hl2] at ih
          exact LB_mono ih (by omega)
        · have ih := LB_go0 hC hK hs hok hr n (fr + (c - 8 + K)) _ _ (by omega) hb1 (fun q => absurd q hl2)
          rw [if_neg hl2] at ih
          exact LB_mono ih (by omega)
    · rw [if_neg hlt, if_neg hlt]
      exact hB
theorem LB_go1 {ar : Nat → Int} {m : Nat} {rec : Int → Int → Int → Int → ly_T → ly_T} {ch : Nat → Int} {K s x y w h : Int} (hC : CX ar m ch) (hK : 0 ≤ K) (hs : 0 ≤ s ∧ s ≤ 3) (hok : okp x y w h) (hr : 1 ≤ s → ∀ x y w h st B, okp x y w h → LB ar B st → B + w * h ≤ 256 → LB ar (B + w * h) (rec x y w h st)) : ∀ (n : Nat) (fr B : Int) (st : ly_T), 0 ≤ fr → LB ar B st → (fr < h → B + w * (h - fr) ≤ 256) → LB ar (if fr < h then B + w * (h - fr) else B) (lt1_go rec ch K s x y w h n fr st)
  | 0, fr, B, st, h0, hB, h2 => by
    have hok' := hok
    unfold okp at hok'
    unfold lt1_go
    split
    · rename_i hlt
      refine LB_mono hB ?_
      have := Int.mul_nonneg (a := w) (b := h - fr) (by omega) (by omega)
      omega
    · exact hB
  | n + 1, fr, B, st, h0, hB, h2 => by
    have hok' := hok
    unfold okp at hok'
    unfold lt1_go
    by_cases hlt : fr < h
    · rw [if_pos hlt, if_pos hlt]
      have h2 := h2 hlt
      have e : rd_choiceAt ch (pl_at s 1 w (h - fr)) = ch (pl_at s 1 w (h - fr)).toNat := rd_plc hs (by omega) (by omega) (by omega)
      have hc := hC s 1 w (h - fr) hs.1 hs.2 (by decide) (by decide) (by omega) (by omega) (by omega) (by omega)
      rw [← e] at hc
      have hlen : (if (1 : Int) = 0 then w else h - fr) = h - fr := by exact if_neg (by decide)
      rw [hlen] at hc
      generalize rd_choiceAt ch (pl_at s 1 w (h - fr)) = c at hc ⊢
      have hokp : okp x (y + fr) w (h - fr) := by unfold okp; omega
      have hal : 1 ≤ w * (h - fr) := by
        have := Int.mul_le_mul (a := 1) (b := 1) (c := w) (d := h - fr) (by omega) (by omega) (by omega) (by omega)
        omega
      split
      · rename_i h8
        have h88 : c ≤ 8 := by
          rcases h8 with h8 | h8
          · exact h8
          · by_cases h9 : 8 < c
            · have := hc.2.1 h9
              omega
            · omega
        exact LB_add hB ⟨hc.1, h88⟩ (pk_bd ⟨hc.1, h88⟩ hokp) hal (fun q => (hc.2.2 q).2) h2
      · rename_i h8
        have hc1 : 8 < c := by omega
        obtain ⟨hs1, hc2⟩ := hc.2.1 hc1
        have hokc : okp x (y + fr) w (c - 8) := by unfold okp; omega
        have m1 := Int.mul_le_mul_of_nonneg_left (c := w) (a := (c - 8)) (b := (h - fr)) (by omega) (by omega)
        have hb1 := hr hs1 _ _ _ _ _ _ hokc (LB_cut (m := w) hB) (by omega)
        have m0 : 0 ≤ w * (c - 8) := Int.mul_nonneg (by omega) (by omega)
        by_cases hl2 : fr + (c - 8 + K) < h
        · have m2 := Int.mul_le_mul_of_nonneg_left (c := w) (a := (h - (fr + (c - 8 + K)))) (b := (h - fr - (c - 8))) (by omega) (by omega)
          have m3 : w * (c - 8) + w * (h - fr - (c - 8)) = w * (h - fr) := by rw [← Int.mul_add]; congr 1; omega
          have ih := LB_go1 hC hK hs hok hr n (fr + (c - 8 + K)) _ _ (by omega) hb1 (fun _ => by omega)
          rw [if_pos hl2] at ih
          exact LB_mono ih (by omega)
        · have ih := LB_go1 hC hK hs hok hr n (fr + (c - 8 + K)) _ _ (by omega) hb1 (fun q => absurd q hl2)
          rw [if_neg hl2] at ih
          exact LB_mono ih (by omega)
    · rw [if_neg hlt, if_neg hlt]
      exact hB
theorem LB_lt {ar : Nat → Int} {m : Nat} {ch : Nat → Int} {K : Int} (hC : CX ar m ch) (hK : 0 ≤ K) : ∀ (s : Nat) (d : Bool) (x y w h B : Int) (st : ly_T), s ≤ 3 → okp x y w h → LB ar B st → B + w * h ≤ 256 → LB ar (B + w * h) (lt ch K s d x y w h st)
  | 0, false, x, y, w, h, B, st, hs, hok, hB, h2 => by
    have := LB_go0 (rec := fun _ _ _ _ st => st) hC hK (s := 0) (by omega) hok (fun q => by omega) 16 0 B st (by omega) hB (fun _ => by rw [Int.sub_zero]; exact h2)
    rw [if_pos (by unfold okp at hok; omega), Int.sub_zero] at this
    exact this
  | 0, true, x, y, w, h, B, st, hs, hok, hB, h2 => by
    have := LB_go1 (rec := fun _ _ _ _ st => st) hC hK (s := 0) (by omega) hok (fun q => by omega) 16 0 B st (by omega) hB (fun _ => by rw [Int.sub_zero]; exact h2)
    rw [if_pos (by unfold okp at hok; omega), Int.sub_zero] at this
    exact this
  | s + 1, false, x, y, w, h, B, st, hs, hok, hB, h2 => by
    have := LB_go0 (rec := lt ch K s true) hC hK (s := (s : Int) + 1) (by omega) hok (fun _ x y w h st B a b c => LB_lt hC hK s true x y w h B st (by omega) a b c) 16 0 B st (by omega) hB (fun _ => by rw [Int.sub_zero]; exact h2)
    rw [if_pos (by unfold okp at hok; omega), Int.sub_zero] at this
    exact this
  | s + 1, true, x, y, w, h, B, st, hs, hok, hB, h2 => by
    have := LB_go1 (rec := lt ch K s false) hC hK (s := (s : Int) + 1) (by omega) hok (fun _ x y w h st B a b c => LB_lt hC hK s false x y w h B st (by omega) a b c) 16 0 B st (by omega) hB (fun _ => by rw [Int.sub_zero]; exact h2)
    rw [if_pos (by unfold okp at hok; omega), Int.sub_zero] at this
    exact this
theorem LB_0 {ar : Nat → Int} {st : ly_T} : LB ar 0 (ly0 st) := by
  have h0 : ∀ p : Nat, p < 8 → (ly0 st).2.2.2.2 p = 0 := fun p hp => if_pos hp
  have hw : ∀ n : Nat, n ≤ 8 → wsum (ly0 st).2.2.2.2 ar n = 0 := by
    intro n
    induction n with
    | zero => intro _; rfl
    | succ n ih =>
      intro hn
      show wsum (ly0 st).2.2.2.2 ar n + (ly0 st).2.2.2.2 n * ar n = 0
      rw [ih (by omega), h0 n (by omega), Int.zero_mul]
      rfl
  refine ⟨⟨Int.le_refl 0, Int.le_refl 0⟩, ?_, ?_, ?_⟩
  · rw [hw 8 (by omega)]
    omega
  · intro p hp
    rw [h0 p hp]
    omega
  · intro i hi
    have : (i : Int) < 0 := hi
    omega
theorem LB_lay {ar : Nat → Int} {m S : Nat} {K w h : Int} {T : tp_T} {st : ly_T} (hC : CX ar m T.2) (hK : 0 ≤ K) (hS : S ≤ 3) (hw : 1 ≤ w ∧ w ≤ 16) (hh : 1 ≤ h ∧ h ≤ 16) : LB ar 256 (lay T K S w h st) := by
  have ha := area_le (w := w) (h := h) (by omega) (by omega) (by omega) (by omega)
  unfold lay
  exact LB_mono (LB_lt hC hK S _ 0 0 w h 0 _ hS (by unfold okp; omega) LB_0 (by omega)) (by omega)
theorem at_bd {co : Nat → Int} {R : Nat → pa_T} (hc : ∀ p : Nat, p < 8 → 0 ≤ co p) (hl : ∀ p : Nat, p < 8 → 0 ≤ (R p).2.2.2.2) (ha : ∀ p : Nat, p < 8 → 0 ≤ ar_of R p) : ∀ n : Nat, n ≤ 8 → 0 ≤ at_sum co R n ∧ at_sum co R n ≤ wsum co (ar_of R) n
  | 0, _ => ⟨Int.le_refl 0, Int.le_refl 0⟩
  | n + 1, hn => by
    have ih := at_bd hc hl ha n (by omega)
    have h1 := hc n (by omega)
    have h2 := hl n (by omega)
    have h3 := ha n (by omega)
    unfold at_sum wsum
    have h4 : 0 ≤ min (co n) (R n).2.2.2.2 * ((R n).1 * (R n).2.1) := Int.mul_nonneg (by omega) h3
    have h5 : min (co n) (R n).2.2.2.2 * ((R n).1 * (R n).2.1) ≤ co n * ar_of R n := Int.mul_le_mul_of_nonneg_right (by omega) h3
    exact ⟨by omega, by omega⟩
end
section
/-! SheetTrees.bestSheet -/
/-- best, its area, its cents, the layout's way, the layout -/
abbrev bs_T : Type := Int × Int × Int × Int × ly_T
def sh_w (T : tp_T) (S : Nat) (r : pa_T) : Int := bz (lyw T.1 S r.1 r.2.1)
def sh_l (T : tp_T) (K : Int) (S : Nat) (r : pa_T) (st : ly_T) : ly_T := lay T K S r.1 r.2.1 st
def bs_step (T : tp_T) (K : Int) (S : Nat) (R : Nat → pa_T) (r : pa_T) (i : Nat) (b : bs_T) : bs_T :=
  if 0 < r.2.2.2.2 then (if b.2.1 * r.2.2.1 < at_sum (sh_l T K S r b.2.2.2.2).2.2.2.2 R 8 * b.2.2.1 then ((i : Int), at_sum (sh_l T K S r b.2.2.2.2).2.2.2.2 R 8, r.2.2.1, sh_w T S r, sh_l T K S r b.2.2.2.2) else (b.1, b.2.1, b.2.2.1, sh_w T S r, sh_l T K S r b.2.2.2.2)) else b
def bs_go (T : tp_T) (K : Int) (S : Nat) (R Sh : Nat → pa_T) (b : bs_T) : Nat → bs_T
  | 0 => b
  | n + 1 => bs_step T K S R (Sh n) n (bs_go T K S R Sh b n)
/-- a told sheet -/
def SO (r : pa_T) : Prop := (1 ≤ r.1 ∧ r.1 ≤ 16) ∧ (1 ≤ r.2.1 ∧ r.2.1 ≤ 16) ∧ (1 ≤ r.2.2.1 ∧ r.2.2.1 ≤ 10000) ∧ 0 ≤ r.2.2.2.2 ∧ r.2.2.2.2 ≤ 20
/-- a part: sides, turns, count and what is left -/
def PO (r : pa_T) : Prop := (0 ≤ r.1 ∧ r.1 ≤ 16) ∧ (0 ≤ r.2.1 ∧ r.2.1 ≤ 16) ∧ (0 ≤ r.2.2.2.1 ∧ r.2.2.2.1 ≤ 50) ∧ 0 ≤ r.2.2.2.2 ∧ r.2.2.2.2 ≤ 50
theorem PO_ar {r : pa_T} (h : PO r) : 0 ≤ r.1 * r.2.1 ∧ r.1 * r.2.1 ≤ 256 := by
  unfold PO at h
  exact area_le (by omega) (by omega) (by omega) (by omega)
theorem at_lay {m S : Nat} {K : Int} {T : tp_T} {R : Nat → pa_T} {r : pa_T} {st : ly_T} (hC : CX (ar_of R) m T.2) (hK : 0 ≤ K) (hS : S ≤ 3) (hr : SO r) (hR : ∀ p : Nat, p < 8 → PO (R p)) : LB (ar_of R) 256 (sh_l T K S r st) ∧ 0 ≤ at_sum (sh_l T K S r st).2.2.2.2 R 8 ∧ at_sum (sh_l T K S r st).2.2.2.2 R 8 ≤ 256 := by
  have h := LB_lay (st := st) hC hK hS hr.1 hr.2.1
  have h2 := at_bd (R := R) (co := (sh_l T K S r st).2.2.2.2) (fun p hp => (h.2.2.1 p hp).1) (fun p hp => (hR p hp).2.2.2.1) (fun p hp => (PO_ar (hR p hp)).1) 8 (by omega)
  have h3 := h.2.1
  refine ⟨h, h2.1, ?_⟩
  have h4 : wsum (sh_l T K S r st).2.2.2.2 (ar_of R) 8 ≤ 256 := h3
  omega
def BI (i : Int) (b : bs_T) : Prop := (-1 ≤ b.1 ∧ b.1 < i) ∧ (0 ≤ b.2.1 ∧ b.2.1 ≤ 256) ∧ (1 ≤ b.2.2.1 ∧ b.2.2.1 ≤ 10000)
theorem BI_step {m S : Nat} {K : Int} {T : tp_T} {R : Nat → pa_T} {r : pa_T} {i : Nat} {b : bs_T} (hC : CX (ar_of R) m T.2) (hK : 0 ≤ K) (hS : S ≤ 3) (hr : SO r) (hR : ∀ p : Nat, p < 8 → PO (R p)) (h : BI (i : Int) b) : BI ((i : Int) + 1) (bs_step T K S R r i b) := by
  have h1 := at_lay (st := b.2.2.2.2) hC hK hS hr hR
  have h2 := hr.2.2.1
  unfold BI at h
  unfold bs_step
  split
  · split
    · exact ⟨⟨by show -1 ≤ (i : Int); omega, by show (i : Int) < i + 1; omega⟩, h1.2, h2⟩
    · exact ⟨⟨h.1.1, by have := h.1.2; show b.1 < (i : Int) + 1; omega⟩, h.2.1, h.2.2⟩
  · exact ⟨⟨h.1.1, by have := h.1.2; omega⟩, h.2.1, h.2.2⟩
theorem BI_go {m S : Nat} {K : Int} {T : tp_T} {R Sh : Nat → pa_T} {way : Int} {st : ly_T} (hC : CX (ar_of R) m T.2) (hK : 0 ≤ K) (hS : S ≤ 3) (hR : ∀ p : Nat, p < 8 → PO (R p)) : ∀ n : Nat, (∀ i : Nat, i < n → SO (Sh i)) → BI (n : Int) (bs_go T K S R Sh (-1, 0, 1, way, st) n)
  | 0, _ => ⟨⟨by show (-1 : Int) ≤ -1; omega, by show (-1 : Int) < 0; omega⟩, ⟨by show (0 : Int) ≤ 0; omega, by show (0 : Int) ≤ 256; omega⟩, by show (1 : Int) ≤ 1; omega, by show (1 : Int) ≤ 10000; omega⟩
  | n + 1, h => BI_step hC hK hS (h n (by omega)) hR (BI_go hC hK hS hR n (fun i hi => h i (by omega)))
theorem mul_bd {a b : Int} (h1 : 0 ≤ a ∧ a ≤ 256) (h2 : 1 ≤ b ∧ b ≤ 10000) : 0 ≤ a * b ∧ a * b ≤ 2560000 := by
  have e1 := Int.mul_nonneg h1.1 (show 0 ≤ b by omega)
  have e2 := Int.mul_le_mul h1.2 h2.2 (by omega) (by omega)
  omega
set_option maxHeartbeats 4000000 in
set_option maxRecDepth 100000 in
theorem c_ST_bestSheet (l : Launch) (D : va_G) (x qsh qpa qcu qtk qrs qt ql qp qo qs qc nS S m : Nat) (le nP nC nT nR rn way K W F : Int) (T : tp_T) (st : ly_T) (cI cP cS : ClassId) (fS fP : Nat → Option Nat) (L : List Nat) (f : Nat → va_E) (aS aP aC : Nat → Nat) (Sh R : Nat → pa_T) (Cs : Nat → Nat → Int) (hnS : nS ≤ 4) (hS : S ≤ 3) (hK : 0 ≤ K ∧ K ≤ 3) (hT : TI T.1) (hC : CX (ar_of R) m T.2) (hfS : ∀ i : Nat, i < 4 → fS i = some (aS i)) (hfP : ∀ i : Nat, i < 8 → fP i = some (aP i)) (hPL : PL L f aS aP aC Sh R Cs) (hSO : ∀ i : Nat, i < nS → SO (Sh i)) (hPO : ∀ p : Nat, p < 8 → PO (R p)) : CM l y_ST_bestSheet b_ST_bestSheet 7 (some .int) rm_7 [.ref x] D [(cI, .int), (cP, .object "SheetTrees$Part"), (cS, .object "SheetTrees$Sheet")] ([ob_ST x qsh qpa qcu qtk qrs qt ql (S : Int) le (nS : Int) nP nC nT nR rn, ar_Q qsh cS 4 fS, ar_Q qpa cP 8 fP, ob_LY ql qt qp qo way st, ar_I qp cI 256 st.2.2.2.1, ar_I qo cI 8 st.2.2.2.2, ob_TB qt qs qc K W F, ar_I qs cI 2312 T.1, ar_I qc cI 2312 T.2] ++ va_pl L f) (fun v w1 p1 _ => v = some (.int (iI (bs_go T K S R Sh (-1, 0, 1, way, st) nS).1)) ∧ w1 = [ob_ST x qsh qpa qcu qtk qrs qt ql (S : Int) le (nS : Int) nP nC nT nR rn, ar_Q qsh cS 4 fS, ar_Q qpa cP 8 fP, ob_LY ql qt qp qo (bs_go T K S R Sh (-1, 0, 1, way, st) nS).2.2.2.1 (bs_go T K S R Sh (-1, 0, 1, way, st) nS).2.2.2.2, ar_I qp cI 256 (bs_go T K S R Sh (-1, 0, 1, way, st) nS).2.2.2.2.2.2.2.1, ar_I qo cI 8 (bs_go T K S R Sh (-1, 0, 1, way, st) nS).2.2.2.2.2.2.2.2, ob_TB qt qs qc K W F, ar_I qs cI 2312 T.1, ar_I qc cI 2312 T.2] ∧ p1 = va_pl L f) := by
  refine cm_of (by decide) (Nat.le_of_ble_eq_true rfl) ?_
  intro X sz hl hr hnm hD hA hw
  subst hD
  have loop : ∀ n i : Nat, i + n = nS → ∀ (b : bs_T) (v5 v6 : Option Value), bs_go T K S R Sh (-1, 0, 1, way, st) i = b → VV X (b_ST_bestSheet, 7, "SheetTrees", rm_7) (cq X ([ob_ST x qsh qpa qcu qtk qrs qt ql (S : Int) le (nS : Int) nP nC nT nR rn, ar_Q qsh cS 4 fS, ar_Q qpa cP 8 fP, ob_LY ql qt qp qo way st, ar_I qp cI 256 st.2.2.2.1, ar_I qo cI 8 st.2.2.2.2, ob_TB qt qs qc K W F, ar_I qs cI 2312 T.1, ar_I qc cI 2312 T.2] ++ va_pl L f) sz (fun v w1 p1 _ => v = some (.int (iI (bs_go T K S R Sh (-1, 0, 1, way, st) nS).1)) ∧ w1 = [ob_ST x qsh qpa qcu qtk qrs qt ql (S : Int) le (nS : Int) nP nC nT nR rn, ar_Q qsh cS 4 fS, ar_Q qpa cP 8 fP, ob_LY ql qt qp qo (bs_go T K S R Sh (-1, 0, 1, way, st) nS).2.2.2.1 (bs_go T K S R Sh (-1, 0, 1, way, st) nS).2.2.2.2, ar_I qp cI 256 (bs_go T K S R Sh (-1, 0, 1, way, st) nS).2.2.2.2.2.2.2.1, ar_I qo cI 8 (bs_go T K S R Sh (-1, 0, 1, way, st) nS).2.2.2.2.2.2.2.2, ob_TB qt qs qc K W F, ar_I qs cI 2312 T.1, ar_I qc cI 2312 T.2] ∧ p1 = va_pl L f) rm_7) 0 0 [(cI, .int), (cP, .object "SheetTrees$Part"), (cS, .object "SheetTrees$Sheet")] [ob_ST x qsh qpa qcu qtk qrs qt ql (S : Int) le (nS : Int) nP nC nT nR rn, ar_Q qsh cS 4 fS, ar_Q qpa cP 8 fP, ob_LY ql qt qp qo b.2.2.2.1 b.2.2.2.2, ar_I qp cI 256 b.2.2.2.2.2.2.2.1, ar_I qo cI 8 b.2.2.2.2.2.2.2.2, ob_TB qt qs qc K W F, ar_I qs cI 2312 T.1, ar_I qc cI 2312 T.2] (va_pl L f) [some (.ref x), some (.int (iI b.1)), some (.int (iI b.2.1)), some (.int (iI b.2.2.1)), some (.int (iI (i : Int))), v5, v6] [] 9 := by
    intro n
    induction n with
    | zero =>
      intro i hi b v5 v6 hb
      have hi2 : i = nS := by omega
      subst hi2
      refine vv_iload d_ST_bestSheet_9 rfl ?_
      refine vv_aload_n d_ST_bestSheet_11 rfl ?_
      refine vv_get d_ST_bestSheet_12 0 rfl fl_ST_34 rfl ?_
      refine vv_icmp_ge (tgt := 103) d_ST_bestSheet_15 (by decide) ⟨by omega, by omega⟩ (fun c15 => ?_) (fun c15 => ?_)
      · skip
        refine vv_iload_n d_ST_bestSheet_103 rfl ?_
        exact vv_iret hA hw hr d_ST_bestSheet_104 (by decide) (by decide) (by exact ⟨by rw [hb], by rw [hb], rfl⟩)
      · exfalso; omega
    | succ n ih =>
      intro i hi b v5 v6 hb
      have hi4 : i < 4 := by omega
      have hiS : i < nS := by omega
      obtain ⟨hin, hat⟩ := hPL.1 i hi4
      have hso := hSO i hiS
      have hbi := BI_go (way := way) (st := st) (Sh := Sh) hC hK.1 hS hPO i (fun j hj => hSO j (by omega))
      rw [hb] at hbi
      obtain ⟨hb1, hb2, hb3⟩ := hbi
      have hun := hso.2.2.2
      have hal := at_lay (st := b.2.2.2.2) hC hK.1 hS hso hPO
      have hm1 := mul_bd hal.2 hb3
      have hm2 := mul_bd hb2 hso.2.2.1
      have h9 := ih (i + 1) (by omega)
      have hgo : bs_go T K S R Sh (-1, 0, 1, way, st) (i + 1) = bs_step T K S R (Sh i) i b := by rw [← hb]; rfl
      refine vv_iload d_ST_bestSheet_9 rfl ?_
      refine vv_aload_n d_ST_bestSheet_11 rfl ?_
      refine vv_get d_ST_bestSheet_12 0 rfl fl_ST_34 rfl ?_
      refine vv_icmp_ge (tgt := 103) d_ST_bestSheet_15 (by decide) ⟨by omega, by omega⟩ (fun c15 => ?_) (fun c15 => ?_)
      · exfalso; omega
      · skip
        refine vv_iload d_ST_bestSheet_18 rfl ?_
        refine vv_aload_n d_ST_bestSheet_20 rfl ?_
        refine vv_get d_ST_bestSheet_21 0 rfl fl_ST_11 rfl ?_
        refine vv_alen d_ST_bestSheet_24 1 2 rfl rfl (v := 4) rfl ?_
        refine vv_icmp_ge (tgt := 103) d_ST_bestSheet_25 (by decide) ⟨by omega, by omega⟩ (fun c25 => ?_) (fun c25 => ?_)
        · exfalso; omega
        · skip
          refine vv_aload_n d_ST_bestSheet_28 rfl ?_
          refine vv_get d_ST_bestSheet_29 0 rfl fl_ST_11 rfl ?_
          refine vv_iload d_ST_bestSheet_32 rfl ?_
          refine vv_aald d_ST_bestSheet_34 1 2 rfl rfl (by omega) (show fS ((i : Int).toNat) = some (aS i) by rw [Int.toNat_natCast]; exact hfS i hi4) ?_
          refine vv_astore d_ST_bestSheet_35 rfl (by decide) ?_
          dsimp only [List.set]
          refine vv_aload d_ST_bestSheet_37 rfl ?_
          refine vv_getP d_ST_bestSheet_39 hin hat fl_ST_247 rfl ?_
          refine vv_if_le (tgt := 97) d_ST_bestSheet_42 (by decide) (by omega) (fun c42 => ?_) (fun c42 => ?_)
          · skip
            refine vv_iinc d_ST_bestSheet_97 rfl rfl (by decide) ?_
            dsimp only [List.set]
            refine vv_goto (tgt := 9) d_ST_bestSheet_100 (by decide) ?_
            have e1 : bs_step T K S R (Sh i) i b = b := by unfold bs_step; rw [if_neg (by omega)]
            rw [e1] at hgo
            exact h9 b _ _ hgo
          · skip
            refine vv_aload_n d_ST_bestSheet_45 rfl ?_
            refine vv_get d_ST_bestSheet_46 0 rfl fl_ST_78 rfl ?_
            refine vv_aload d_ST_bestSheet_49 rfl ?_
            refine vv_aload_n d_ST_bestSheet_51 rfl ?_
            refine vv_get d_ST_bestSheet_52 0 rfl fl_ST_58 rfl ?_
            refine vv_mV hw (wc := [ob_LY ql qt qp qo b.2.2.2.1 b.2.2.2.2, ar_I qp cI 256 b.2.2.2.2.2.2.2.1, ar_I qo cI 8 b.2.2.2.2.2.2.2.2, ob_TB qt qs qc K W F, ar_I qs cI 2312 T.1, ar_I qc cI 2312 T.2]) (wr := [ob_ST x qsh qpa qcu qtk qrs qt ql (S : Int) le (nS : Int) nP nC nT nR rn, ar_Q qsh cS 4 fS, ar_Q qpa cP 8 fP]) [] (c_LY_lay (cx_l X) (cx_D X) cI ql qt qp qo qs qc (aS i) b.2.2.2.1 K W F T b.2.2.2.2 L f (Sh i) S hS hK (CX_CI hC) hT hin hat hso.1 hso.2.1) lk_ST_250 d_ST_bestSheet_55 rfl (rc_at 3 rfl rfl rfl) [3, 4, 5, 6, 7, 8] [0, 1, 2] ⟨rfl, rfl⟩ ⟨rfl, rfl, by decide⟩ [0] rfl ⟨⟨by decide, by decide⟩, ⟨by decide, by decide⟩, Nat.le_of_ble_eq_true rfl⟩ ⟨rfl, rfl⟩ ?_
            rintro v w1 p1 t1 ⟨rfl, rfl, rfl⟩
            dsimp only [Option.toList, List.cons_append, List.nil_append, List.append_nil]
            refine vv_aload_n d_ST_bestSheet_58 rfl ?_
            refine vv_get d_ST_bestSheet_59 0 rfl fl_ST_78 rfl ?_
            refine vv_aload_n d_ST_bestSheet_62 rfl ?_
            refine vv_get d_ST_bestSheet_63 0 rfl fl_ST_17 rfl ?_
            refine vv_pV (wc := [ob_LY ql qt qp qo (sh_w T S (Sh i)) (sh_l T K S (Sh i) b.2.2.2.2), ar_I qo cI 8 (sh_l T K S (Sh i) b.2.2.2.2).2.2.2.2, ar_Q qpa cP 8 fP]) (plc := va_pl L f) [] (c_LY_areaToTake (cx_l X) (cx_D X) cI cP ql qt qp qo qpa (sh_w T S (Sh i)) (sh_l T K S (Sh i) b.2.2.2.2) fP L f aP R hfP hPL.2.1 (fun p hp => by have := hal.1.2.2.1 p hp; omega) (fun p hp => by have := (hPO p hp).2.2.2; omega)) lk_ST_254 d_ST_bestSheet_66 rfl (rc_at 3 rfl rfl rfl) [3, 5, 2] ⟨rfl, rfl, Or.inr rfl⟩ [0, 1] rfl ⟨⟨by decide, by decide⟩, ⟨by decide, by decide⟩, Nat.le_of_ble_eq_true rfl⟩ ⟨rfl, rfl⟩ ?_
            intro v hv
            subst hv
            dsimp only [Option.toList, List.cons_append, List.nil_append, List.append_nil]
            refine vv_istore d_ST_bestSheet_69 rfl (by decide) ?_
            dsimp only [List.set]
            refine vv_iload d_ST_bestSheet_71 rfl ?_
            refine vv_iload_n d_ST_bestSheet_73 rfl ?_
            refine vv_imul d_ST_bestSheet_74 ?_
            refine vv_iload_n d_ST_bestSheet_75 rfl ?_
            refine vv_aload d_ST_bestSheet_76 rfl ?_
            refine vv_getP d_ST_bestSheet_78 hin hat fl_ST_115 rfl ?_
            refine vv_imul d_ST_bestSheet_81 ?_
            refine vv_icmp_le (tgt := 97) d_ST_bestSheet_82 (by decide) ⟨by omega, by omega⟩ (fun c82 => ?_) (fun c82 => ?_)
            · skip
              refine vv_iinc d_ST_bestSheet_97 rfl rfl (by decide) ?_
              dsimp only [List.set]
              refine vv_goto (tgt := 9) d_ST_bestSheet_100 (by decide) ?_
              have e1 : bs_step T K S R (Sh i) i b = (b.1, b.2.1, b.2.2.1, (sh_w T S (Sh i)), (sh_l T K S (Sh i) b.2.2.2.2)) := by unfold bs_step; rw [if_pos (by omega), if_neg (by omega)]
              rw [e1] at hgo
              exact h9 (b.1, b.2.1, b.2.2.1, (sh_w T S (Sh i)), (sh_l T K S (Sh i) b.2.2.2.2)) _ _ hgo
            · skip
              refine vv_iload d_ST_bestSheet_85 rfl ?_
              refine vv_istore_n d_ST_bestSheet_87 rfl (by decide) ?_
              dsimp only [List.set]
              refine vv_iload d_ST_bestSheet_88 rfl ?_
              refine vv_istore_n d_ST_bestSheet_90 rfl (by decide) ?_
              dsimp only [List.set]
              refine vv_aload d_ST_bestSheet_91 rfl ?_
              refine vv_getP d_ST_bestSheet_93 hin hat fl_ST_115 rfl ?_
              refine vv_istore_n d_ST_bestSheet_96 rfl (by decide) ?_
              dsimp only [List.set]
              refine vv_iinc d_ST_bestSheet_97 rfl rfl (by decide) ?_
              dsimp only [List.set]
              refine vv_goto (tgt := 9) d_ST_bestSheet_100 (by decide) ?_
              have e1 : bs_step T K S R (Sh i) i b = ((i : Int), at_sum (sh_l T K S (Sh i) b.2.2.2.2).2.2.2.2 R 8, (Sh i).2.2.1, (sh_w T S (Sh i)), (sh_l T K S (Sh i) b.2.2.2.2)) := by unfold bs_step; rw [if_pos (by omega), if_pos (by omega)]
              rw [e1] at hgo
              exact h9 ((i : Int), at_sum (sh_l T K S (Sh i) b.2.2.2.2).2.2.2.2 R 8, (Sh i).2.2.1, (sh_w T S (Sh i)), (sh_l T K S (Sh i) b.2.2.2.2)) _ _ hgo
  show VV X (b_ST_bestSheet, 7, "SheetTrees", rm_7) _ 0 0 [(cI, .int), (cP, .object "SheetTrees$Part"), (cS, .object "SheetTrees$Sheet")] [ob_ST x qsh qpa qcu qtk qrs qt ql (S : Int) le (nS : Int) nP nC nT nR rn, ar_Q qsh cS 4 fS, ar_Q qpa cP 8 fP, ob_LY ql qt qp qo way st, ar_I qp cI 256 st.2.2.2.1, ar_I qo cI 8 st.2.2.2.2, ob_TB qt qs qc K W F, ar_I qs cI 2312 T.1, ar_I qc cI 2312 T.2] (va_pl L f) [some (.ref x), none, none, none, none, none, none] [] 0
  refine vv_iconst d_ST_bestSheet_0 ?_
  refine vv_istore_n d_ST_bestSheet_1 rfl (by decide) ?_
  dsimp only [List.set]
  refine vv_iconst d_ST_bestSheet_2 ?_
  refine vv_istore_n d_ST_bestSheet_3 rfl (by decide) ?_
  dsimp only [List.set]
  refine vv_iconst d_ST_bestSheet_4 ?_
  refine vv_istore_n d_ST_bestSheet_5 rfl (by decide) ?_
  dsimp only [List.set]
  refine vv_iconst d_ST_bestSheet_6 ?_
  refine vv_istore d_ST_bestSheet_7 rfl (by decide) ?_
  dsimp only [List.set]
  exact loop nS 0 (by omega) (-1, 0, 1, way, st) _ _ rfl
end
section
/-! SheetTrees.cutOneOf -/
/-- what a run changes -/
abbrev RS : Type := Int × Int × (Nat → Int) × (Nat → Int) × (Nat → pa_T) × (Nat → pa_T) × (Nat → Nat → Int) × Int × ly_T × tp_T × Int × Int
abbrev RS.nT (u : RS) : Int := u.1
abbrev RS.nR (u : RS) : Int := u.2.1
abbrev RS.tk (u : RS) : Nat → Int := u.2.2.1
abbrev RS.rs (u : RS) : Nat → Int := u.2.2.2.1
abbrev RS.R (u : RS) : Nat → pa_T := u.2.2.2.2.1
abbrev RS.Sh (u : RS) : Nat → pa_T := u.2.2.2.2.2.1
abbrev RS.Cs (u : RS) : Nat → Nat → Int := u.2.2.2.2.2.2.1
abbrev RS.way (u : RS) : Int := u.2.2.2.2.2.2.2.1
abbrev RS.st (u : RS) : ly_T := u.2.2.2.2.2.2.2.2.1
abbrev RS.T (u : RS) : tp_T := u.2.2.2.2.2.2.2.2.2.1
abbrev RS.W (u : RS) : Int := u.2.2.2.2.2.2.2.2.2.2.1
abbrev RS.F (u : RS) : Int := u.2.2.2.2.2.2.2.2.2.2.2
def co_r (r : pa_T) : pa_T := (r.1, r.2.1, r.2.2.1, r.2.2.2.1, r.2.2.2.2 - 1)
def co_c (K : Int) (S b nC : Nat) (u : RS) : Nat → Int := cs_st (u.Cs nC) b (u.Sh b).2.2.1 ((u.Sh b).1 * (u.Sh b).2.1) (sh_w u.T S (u.Sh b)) (sh_l u.T K S (u.Sh b) u.st).2.1 (sh_l u.T K S (u.Sh b) u.st).2.2.1 ((pu_m (sh_l u.T K S (u.Sh b) u.st).2.2.2.2 8 : Nat) : Int)
def co_ts (le K : Int) (S b nC : Nat) (u : RS) : ts_T := ts_go le (sh_l u.T K S (u.Sh b) u.st).2.2.2.1 (u.nT, u.nR, u.tk, u.rs, u.R, cs_from (co_c K S b nC u) u.nT u.nR) (sh_l u.T K S (u.Sh b) u.st).1.toNat
def co_cs (le K : Int) (S b nC : Nat) (u : RS) : Nat → Nat → Int := va_up u.Cs nC (cs_to (co_ts le K S b nC u))
def co_fa (le K : Int) (S b nC : Nat) (u : RS) : Nat := fa_at (co_cs le K S b nC u) (co_cs le K S b nC u nC 0) u.W nC 0
def co_step (le K : Int) (S b nC : Nat) (u : RS) : RS := ⟨(co_ts le K S b nC u).1, (co_ts le K S b nC u).2.1, (co_ts le K S b nC u).2.2.1, (co_ts le K S b nC u).2.2.2.1, (co_ts le K S b nC u).2.2.2.2.1, va_up u.Sh b (co_r (u.Sh b)), va_up u.Cs nC (va_up (cs_to (co_ts le K S b nC u)) 12 (co_fa le K S b nC u : Nat)), sh_w u.T S (u.Sh b), sh_l u.T K S (u.Sh b) u.st, u.T, u.W, u.F⟩
/-- a part but for what is left -/
def same4 (r r' : pa_T) : Prop := r'.1 = r.1 ∧ r'.2.1 = r.2.1 ∧ r'.2.2.1 = r.2.2.1 ∧ r'.2.2.2.1 = r.2.2.2.1 ∧ r'.2.2.2.2 ≤ r.2.2.2.2
theorem same4_refl (r : pa_T) : same4 r r := ⟨rfl, rfl, rfl, rfl, Int.le_refl _⟩
theorem same4_trans {a b c : pa_T} (h : same4 a b) (k : same4 b c) : same4 a c := ⟨k.1.trans h.1, k.2.1.trans h.2.1, k.2.2.1.trans h.2.2.1, k.2.2.2.1.trans h.2.2.2.1, Int.le_trans k.2.2.2.2 h.2.2.2.2⟩
theorem ts_same {le q : Int} {s : ts_T} : (∀ p : Nat, same4 (s.2.2.2.2.1 p) ((ts_step le q s).2.2.2.2.1 p)) ∧ ∀ k : Nat, k ≠ 9 → (ts_step le q s).2.2.2.2.2 k = s.2.2.2.2.2 k := by
  unfold ts_step
  split
  · split
    · exact ⟨fun p => same4_refl _, fun _ _ => rfl⟩
    · exact ⟨fun p => same4_refl _, fun _ _ => rfl⟩
  · split
    · split
      · refine ⟨fun p => ?_, fun k hk => va_up_ne _ _ hk⟩
        by_cases e : p = ts_k q
        · subst e
          show same4 _ (va_up _ _ _ _)
          rw [va_up_self]
          exact ⟨rfl, rfl, rfl, rfl, by show _ - 1 ≤ _; omega⟩
        · show same4 _ (va_up _ _ _ _)
          rw [va_up_ne _ _ e]
          exact same4_refl _
      · exact ⟨fun p => same4_refl _, fun _ _ => rfl⟩
    · exact ⟨fun p => same4_refl _, fun _ _ => rfl⟩
theorem tg_same {le : Int} {ps : Nat → Int} {s : ts_T} : ∀ n : Nat, (∀ p : Nat, same4 (s.2.2.2.2.1 p) ((ts_go le ps s n).2.2.2.2.1 p)) ∧ ∀ k : Nat, k ≠ 9 → (ts_go le ps s n).2.2.2.2.2 k = s.2.2.2.2.2 k
  | 0 => ⟨fun p => same4_refl _, fun _ _ => rfl⟩
  | n + 1 => by
    have ih := tg_same (le := le) (ps := ps) (s := s) n
    have h := ts_same (le := le) (q := ps n) (s := ts_go le ps s n)
    exact ⟨fun p => same4_trans (ih.1 p) (h.1 p), fun k hk => (h.2 k hk).trans (ih.2 k hk)⟩
/-- the invariant of a run with i sheets cut -/
def RI (nS nP i : Nat) (u : RS) : Prop := (0 ≤ u.nT) ∧ (u.nT + sumL u.R 8 ≤ 400) ∧ (0 ≤ u.nR) ∧ (u.nR ≤ 256 * i) ∧ (∀ k : Nat, k < nS → SO (u.Sh k)) ∧ (∀ p : Nat, p < 8 → PO (u.R p)) ∧ (PZ u.R) ∧ (∀ p : Nat, p < nP → 1 ≤ (u.R p).1 ∧ 1 ≤ (u.R p).2.1) ∧ (HT (ar_of u.R) u.W u.T) ∧ (-1 ≤ u.W ∧ u.W < 256) ∧ (0 ≤ u.F ∧ u.F ≤ 3) ∧ (∀ k : Nat, k < 20 → 0 ≤ u.Cs k 0 ∧ u.Cs k 0 < 4)
theorem RI.t0 {nS nP i : Nat} {u : RS} (h : RI nS nP i u) : 0 ≤ u.nT := h.1
theorem RI.t1 {nS nP i : Nat} {u : RS} (h : RI nS nP i u) : u.nT + sumL u.R 8 ≤ 400 := h.2.1
theorem RI.r0 {nS nP i : Nat} {u : RS} (h : RI nS nP i u) : 0 ≤ u.nR := h.2.2.1
theorem RI.r1 {nS nP i : Nat} {u : RS} (h : RI nS nP i u) : u.nR ≤ 256 * i := h.2.2.2.1
theorem RI.so {nS nP i : Nat} {u : RS} (h : RI nS nP i u) : ∀ k : Nat, k < nS → SO (u.Sh k) := h.2.2.2.2.1
theorem RI.po {nS nP i : Nat} {u : RS} (h : RI nS nP i u) : ∀ p : Nat, p < 8 → PO (u.R p) := h.2.2.2.2.2.1
theorem RI.pz {nS nP i : Nat} {u : RS} (h : RI nS nP i u) : PZ u.R := h.2.2.2.2.2.2.1
theorem RI.pw {nS nP i : Nat} {u : RS} (h : RI nS nP i u) : ∀ p : Nat, p < nP → 1 ≤ (u.R p).1 ∧ 1 ≤ (u.R p).2.1 := h.2.2.2.2.2.2.2.1
theorem RI.ht {nS nP i : Nat} {u : RS} (h : RI nS nP i u) : HT (ar_of u.R) u.W u.T := h.2.2.2.2.2.2.2.2.1
theorem RI.w0 {nS nP i : Nat} {u : RS} (h : RI nS nP i u) : -1 ≤ u.W ∧ u.W < 256 := h.2.2.2.2.2.2.2.2.2.1
theorem RI.f0 {nS nP i : Nat} {u : RS} (h : RI nS nP i u) : 0 ≤ u.F ∧ u.F ≤ 3 := h.2.2.2.2.2.2.2.2.2.2.1
theorem RI.cb {nS nP i : Nat} {u : RS} (h : RI nS nP i u) : ∀ k : Nat, k < 20 → 0 ≤ u.Cs k 0 ∧ u.Cs k 0 < 4 := h.2.2.2.2.2.2.2.2.2.2.2
theorem co_c0 {le K : Int} {S b nC : Nat} {u : RS} : cs_to (co_ts le K S b nC u) 0 = (b : Int) := by
  unfold cs_to
  rw [va_up_ne _ _ (by decide), va_up_ne _ _ (by decide)]
  unfold co_ts
  rw [(tg_same _).2 0 (by decide)]
  show cs_from (co_c K S b nC u) u.nT u.nR 0 = _
  unfold cs_from
  rw [va_up_ne _ _ (by decide), va_up_ne _ _ (by decide)]
  rfl
theorem co_TS {nS nP i : Nat} {le K : Int} {S b : Nat} {u : RS} (h : RI nS nP i u) : TS (co_ts le K S b i u) ∧ u.nR ≤ (co_ts le K S b i u).2.1 ∧ (co_ts le K S b i u).2.1 ≤ u.nR + (sh_l u.T K S (u.Sh b) u.st).1.toNat := TS_go (s := (u.nT, u.nR, u.tk, u.rs, u.R, cs_from (co_c K S b i u) u.nT u.nR)) ⟨h.t0, h.t1, fun p hp => (h.po p hp).2.2.2.1⟩ _
theorem ar_same {R R' : Nat → pa_T} (h : ∀ p : Nat, same4 (R p) (R' p)) : ar_of R' = ar_of R := by
  funext p
  show (R' p).1 * (R' p).2.1 = (R p).1 * (R p).2.1
  rw [(h p).1, (h p).2.1]
theorem RI_co {nS nP i S b m : Nat} {le K : Int} {u : RS} (h : RI nS nP i u) (hS : S ≤ 3) (hK : 0 ≤ K) (hb : b < nS) (hb4 : b < 4) (hi : i < 20) (hW : u.W = (m : Int)) (hun : 0 < (u.Sh b).2.2.2.2) : RI nS nP (i + 1) (co_step le K S b i u) := by
  obtain ⟨h1, h2, h3⟩ := co_TS (le := le) (K := K) (S := S) (b := b) h
  have hsm : ∀ p : Nat, same4 (u.R p) ((co_ts le K S b i u).2.2.2.2.1 p) := (tg_same (s := (u.nT, u.nR, u.tk, u.rs, u.R, cs_from (co_c K S b i u) u.nT u.nR)) _).1
  have hC := (h.ht m hW.symm).2
  have hl := LB_lay (st := u.st) hC hK hS (h.so b hb).1 (h.so b hb).2.1
  have hl1 : (sh_l u.T K S (u.Sh b) u.st).1 ≤ 256 := hl.1.2
  refine ⟨h1.1, h1.2.1, ?_, ?_, ?_, ?_, ?_, ?_, ?_, h.w0, h.f0, ?_⟩
  · show 0 ≤ (co_ts le K S b i u).2.1
    have := h.r0
    omega
  · show (co_ts le K S b i u).2.1 ≤ 256 * ((i + 1 : Nat) : Int)
    have := h.r1
    omega
  · intro k hk
    show SO (va_up u.Sh b (co_r (u.Sh b)) k)
    by_cases e : k = b
    · subst e
      rw [va_up_self]
      have hs := h.so k hk
      unfold SO at hs ⊢
      exact ⟨hs.1, hs.2.1, hs.2.2.1, by show 0 ≤ _ - 1; omega, by show _ - 1 ≤ 20; omega⟩
    · rw [va_up_ne _ _ e]
      exact h.so k hk
  · intro p hp
    show PO ((co_ts le K S b i u).2.2.2.2.1 p)
    have h4 := hsm p
    have h5 := h.po p hp
    have h6 := h1.2.2 p hp
    unfold same4 at h4
    unfold PO at h5 ⊢
    omega
  · intro p hp
    show ((co_ts le K S b i u).2.2.2.2.1 p).2.2.1 = 0 ∨ ((co_ts le K S b i u).2.2.2.2.1 p).2.2.1 = 1
    rw [(hsm p).2.2.1]
    exact h.pz p hp
  · intro p hp
    show 1 ≤ ((co_ts le K S b i u).2.2.2.2.1 p).1 ∧ 1 ≤ ((co_ts le K S b i u).2.2.2.2.1 p).2.1
    rw [(hsm p).1, (hsm p).2.1]
    exact h.pw p hp
  · show HT (ar_of (co_ts le K S b i u).2.2.2.2.1) u.W u.T
    rw [ar_same hsm]
    exact h.ht
  · intro k hk
    show 0 ≤ va_up u.Cs i (va_up (cs_to (co_ts le K S b i u)) 12 _) k 0 ∧ va_up u.Cs i (va_up (cs_to (co_ts le K S b i u)) 12 _) k 0 < 4
    by_cases e : k = i
    · subst e
      rw [va_up_self, va_up_ne _ _ (by decide), co_c0]
      omega
    · rw [va_up_ne _ _ e]
      exact h.cb k hk
set_option maxHeartbeats 4000000 in
set_option maxRecDepth 100000 in
theorem c_ST_cutOneOf (l : Launch) (D : va_G) (x qsh qpa qcu qtk qrs qt ql qp qo qs qc nS nP S : Nat) (le rn K : Int) (cI cP cS cC : ClassId) (fS fP fC : Nat → Option Nat) (L : List Nat) (f : Nat → va_E) (aS aP aC : Nat → Nat) (hnS : nS ≤ 4) (hnP : nP ≤ 8) (hS : S ≤ 3) (hK : 0 ≤ K ∧ K ≤ 3) (hle : 1 ≤ le ∧ le ≤ 16) (hfS : ∀ i : Nat, i < 4 → fS i = some (aS i)) (hfP : ∀ i : Nat, i < 8 → fP i = some (aP i)) (hfC : ∀ i : Nat, i < 20 → fC i = some (aC i)) (hAD : AD aS aP aC) (u : RS) (b nC m : Nat) (hb : b < nS) (hb4 : b < 4) (hnC : nC < 20) (hI : RI nS nP nC u) (hW : u.W = (m : Int)) (hun : 0 < (u.Sh b).2.2.2.2) (hPL : PL L f aS aP aC u.Sh u.R u.Cs) : CM l y_ST_cutOneOf b_ST_cutOneOf 4 none rm_7 [.ref x, .int (iI (b : Int))] D [(cI, .int), (cP, .object "SheetTrees$Part"), (cS, .object "SheetTrees$Sheet"), (cC, .object "SheetTrees$CutSheet")] ([ob_ST x qsh qpa qcu qtk qrs qt ql (S : Int) le (nS : Int) (nP : Int) (nC : Int) u.nT u.nR rn, ar_Q qsh cS 4 fS, ar_Q qpa cP 8 fP, ob_LY ql qt qp qo u.way u.st, ar_I qp cI 256 u.st.2.2.2.1, ar_I qo cI 8 u.st.2.2.2.2, ob_TB qt qs qc K u.W u.F, ar_I qs cI 2312 u.T.1, ar_I qc cI 2312 u.T.2, ar_Q qcu cC 20 fC, ar_I qtk cI 400 u.tk, ar_I qrs cI 5120 u.rs] ++ va_pl L f) (fun v w1 p1 _ => v = none ∧ w1 = [ob_ST x qsh qpa qcu qtk qrs qt ql (S : Int) le (nS : Int) (nP : Int) ((nC : Int) + 1) (co_step le K S b nC u).nT (co_step le K S b nC u).nR rn, ar_Q qsh cS 4 fS, ar_Q qpa cP 8 fP, ob_LY ql qt qp qo (co_step le K S b nC u).way (co_step le K S b nC u).st, ar_I qp cI 256 (co_step le K S b nC u).st.2.2.2.1, ar_I qo cI 8 (co_step le K S b nC u).st.2.2.2.2, ob_TB qt qs qc K (co_step le K S b nC u).W (co_step le K S b nC u).F, ar_I qs cI 2312 (co_step le K S b nC u).T.1, ar_I qc cI 2312 (co_step le K S b nC u).T.2, ar_Q qcu cC 20 fC, ar_I qtk cI 400 (co_step le K S b nC u).tk, ar_I qrs cI 5120 (co_step le K S b nC u).rs] ∧ ∃ f9, p1 = va_pl L f9 ∧ PL L f9 aS aP aC (co_step le K S b nC u).Sh (co_step le K S b nC u).R (co_step le K S b nC u).Cs) := by
  refine cm_of (by decide) (Nat.le_of_ble_eq_true rfl) ?_
  intro X sz hl hr hnm hD hA hw
  subst hD
  obtain ⟨hin, hat⟩ := hPL.1 b hb4
  have hso := hI.so b hb
  have hun2 := hso.2.2.2
  have hT := (hI.ht m hW.symm).1
  have hC := (hI.ht m hW.symm).2
  have hlb : LB (ar_of u.R) 256 (sh_l u.T K S (u.Sh b) u.st) := LB_lay (st := u.st) hC hK.1 hS hso.1 hso.2.1
  have hR0 := hI.r0
  have hR1 := hI.r1
  have hp1 := PL_S (i := b) (r := co_r (u.Sh b)) hPL hAD hb4
  have hin2 := hin
  have hat2 : va_up f (aS b) (ob_SH (co_r (u.Sh b))) (aS b) = ob_SH (co_r (u.Sh b)) := va_up_self _ _ _
  obtain ⟨hin3, hat3⟩ := hp1.2.2 nC hnC
  have hp2 := PL_C (i := nC) (c := co_c K S b nC u) hp1 hAD hnC
  have hcc : (va_up u.Cs nC (co_c K S b nC u)) nC = co_c K S b nC u := va_up_self _ _ _
  show VV X (b_ST_cutOneOf, 4, "SheetTrees", rm_7) _ 0 0 [(cI, .int), (cP, .object "SheetTrees$Part"), (cS, .object "SheetTrees$Sheet"), (cC, .object "SheetTrees$CutSheet")] [ob_ST x qsh qpa qcu qtk qrs qt ql (S : Int) le (nS : Int) (nP : Int) (nC : Int) u.nT u.nR rn, ar_Q qsh cS 4 fS, ar_Q qpa cP 8 fP, ob_LY ql qt qp qo u.way u.st, ar_I qp cI 256 u.st.2.2.2.1, ar_I qo cI 8 u.st.2.2.2.2, ob_TB qt qs qc K u.W u.F, ar_I qs cI 2312 u.T.1, ar_I qc cI 2312 u.T.2, ar_Q qcu cC 20 fC, ar_I qtk cI 400 u.tk, ar_I qrs cI 5120 u.rs] (va_pl L f) [some (.ref x), some (.int (iI (b : Int))), none, none] [] 0
  refine vv_iload_n d_ST_cutOneOf_0 rfl ?_
  refine vv_if_lt (tgt := 25) d_ST_cutOneOf_1 (by decide) (by omega) (fun c1 => ?_) (fun c1 => ?_)
  · exfalso; omega
  · skip
    refine vv_iload_n d_ST_cutOneOf_4 rfl ?_
    refine vv_aload_n d_ST_cutOneOf_5 rfl ?_
    refine vv_get d_ST_cutOneOf_6 0 rfl fl_ST_11 rfl ?_
    refine vv_alen d_ST_cutOneOf_9 1 2 rfl rfl (v := 4) rfl ?_
    refine vv_icmp_ge (tgt := 25) d_ST_cutOneOf_10 (by decide) ⟨by omega, by omega⟩ (fun c10 => ?_) (fun c10 => ?_)
    · exfalso; omega
    · skip
      refine vv_aload_n d_ST_cutOneOf_13 rfl ?_
      refine vv_get d_ST_cutOneOf_14 0 rfl fl_ST_41 rfl ?_
      refine vv_aload_n d_ST_cutOneOf_17 rfl ?_
      refine vv_get d_ST_cutOneOf_18 0 rfl fl_ST_23 rfl ?_
      refine vv_alen d_ST_cutOneOf_21 9 3 rfl rfl (v := 20) rfl ?_
      refine vv_icmp_lt (tgt := 26) d_ST_cutOneOf_22 (by decide) ⟨by omega, by omega⟩ (fun c22 => ?_) (fun c22 => ?_)
      · skip
        refine vv_aload_n d_ST_cutOneOf_26 rfl ?_
        refine vv_get d_ST_cutOneOf_27 0 rfl fl_ST_11 rfl ?_
        refine vv_iload_n d_ST_cutOneOf_30 rfl ?_
        refine vv_aald d_ST_cutOneOf_31 1 2 rfl rfl (by omega) (show fS ((b : Int).toNat) = some (aS b) by rw [Int.toNat_natCast]; exact hfS b hb4) ?_
        refine vv_astore_n d_ST_cutOneOf_32 rfl (by decide) ?_
        dsimp only [List.set]
        refine vv_aload_n d_ST_cutOneOf_33 rfl ?_
        refine vv_get d_ST_cutOneOf_34 0 rfl fl_ST_23 rfl ?_
        refine vv_aload_n d_ST_cutOneOf_37 rfl ?_
        refine vv_get d_ST_cutOneOf_38 0 rfl fl_ST_41 rfl ?_
        refine vv_aald d_ST_cutOneOf_41 9 3 rfl rfl (by omega) (show fC ((nC : Int).toNat) = some (aC nC) by rw [Int.toNat_natCast]; exact hfC nC hnC) ?_
        refine vv_astore_n d_ST_cutOneOf_42 rfl (by decide) ?_
        dsimp only [List.set]
        refine vv_aload_n d_ST_cutOneOf_43 rfl ?_
        refine vv_get d_ST_cutOneOf_44 0 rfl fl_ST_78 rfl ?_
        refine vv_aload_n d_ST_cutOneOf_47 rfl ?_
        refine vv_aload_n d_ST_cutOneOf_48 rfl ?_
        refine vv_get d_ST_cutOneOf_49 0 rfl fl_ST_58 rfl ?_
        refine vv_mV hw (wc := [ob_LY ql qt qp qo u.way u.st, ar_I qp cI 256 u.st.2.2.2.1, ar_I qo cI 8 u.st.2.2.2.2, ob_TB qt qs qc K u.W u.F, ar_I qs cI 2312 u.T.1, ar_I qc cI 2312 u.T.2]) (wr := [ob_ST x qsh qpa qcu qtk qrs qt ql (S : Int) le (nS : Int) (nP : Int) (nC : Int) u.nT u.nR rn, ar_Q qsh cS 4 fS, ar_Q qpa cP 8 fP, ar_Q qcu cC 20 fC, ar_I qtk cI 400 u.tk, ar_I qrs cI 5120 u.rs]) [] (c_LY_lay (cx_l X) (cx_D X) cI ql qt qp qo qs qc (aS b) u.way K u.W u.F u.T u.st L f (u.Sh b) S hS hK (CX_CI hC) hT hin hat hso.1 hso.2.1) lk_ST_250 d_ST_cutOneOf_52 rfl (rc_at 3 rfl rfl rfl) [3, 4, 5, 6, 7, 8] [0, 1, 2, 9, 10, 11] ⟨rfl, rfl⟩ ⟨rfl, rfl, by decide⟩ [0] rfl ⟨⟨by decide, by decide⟩, ⟨by decide, by decide⟩, Nat.le_of_ble_eq_true rfl⟩ ⟨rfl, rfl⟩ ?_
        rintro v w1 p1 t1 ⟨rfl, rfl, rfl⟩
        dsimp only [Option.toList, List.cons_append, List.nil_append, List.append_nil]
        refine vv_sub (ws' := [ob_ST x qsh qpa qcu qtk qrs qt ql (S : Int) le (nS : Int) (nP : Int) (nC : Int) u.nT u.nR rn, ar_Q qsh cS 4 fS, ar_Q qpa cP 8 fP, ob_LY ql qt qp qo (sh_w u.T S (u.Sh b)) (sh_l u.T K S (u.Sh b) u.st), ar_I qp cI 256 (sh_l u.T K S (u.Sh b) u.st).2.2.2.1, ar_I qo cI 8 (sh_l u.T K S (u.Sh b) u.st).2.2.2.2, ob_TB qt qs qc K u.W u.F, ar_I qs cI 2312 u.T.1, ar_I qc cI 2312 u.T.2, ar_Q qcu cC 20 fC, ar_I qtk cI 400 u.tk, ar_I qrs cI 5120 u.rs]) [0, 1, 2, 6, 7, 8, 9, 10, 11, 3, 4, 5] rfl rfl ?_
        refine vv_aload_n d_ST_cutOneOf_55 rfl ?_
        refine vv_dup d_ST_cutOneOf_56 rfl ?_
        refine vv_getP d_ST_cutOneOf_57 hin hat fl_ST_247 rfl ?_
        refine vv_iconst d_ST_cutOneOf_60 ?_
        refine vv_isub d_ST_cutOneOf_61 ?_
        refine vv_putP hw d_ST_cutOneOf_62 hin hat fp_ST_247 rfl rfl (Nat.le_of_ble_eq_true rfl) ?_
        dsimp only [List.set]
        refine vv_aload_n d_ST_cutOneOf_65 rfl ?_
        refine vv_iload_n d_ST_cutOneOf_66 rfl ?_
        refine vv_aload_n d_ST_cutOneOf_67 rfl ?_
        refine vv_aload_n d_ST_cutOneOf_68 rfl ?_
        refine vv_get d_ST_cutOneOf_69 0 rfl fl_ST_78 rfl ?_
        refine vv_mV hw (wc := [ob_LY ql qt qp qo (sh_w u.T S (u.Sh b)) (sh_l u.T K S (u.Sh b) u.st), ar_I qo cI 8 (sh_l u.T K S (u.Sh b) u.st).2.2.2.2]) (wr := [ob_ST x qsh qpa qcu qtk qrs qt ql (S : Int) le (nS : Int) (nP : Int) (nC : Int) u.nT u.nR rn, ar_Q qsh cS 4 fS, ar_Q qpa cP 8 fP, ar_I qp cI 256 (sh_l u.T K S (u.Sh b) u.st).2.2.2.1, ob_TB qt qs qc K u.W u.F, ar_I qs cI 2312 u.T.1, ar_I qc cI 2312 u.T.2, ar_Q qcu cC 20 fC, ar_I qtk cI 400 u.tk, ar_I qrs cI 5120 u.rs]) [] (c_CS_start (cx_l X) (cx_D X) cI (aC nC) (aS b) ql qt qp qo (sh_w u.T S (u.Sh b)) (b : Int) (sh_l u.T K S (u.Sh b) u.st) (u.Cs nC) (co_r (u.Sh b)) L (va_up f (aS b) (ob_SH (co_r (u.Sh b)))) hin3 hat3 hin2 hat2 (fun p hp => by have := hlb.2.2.1 p hp; omega)) lk_ST_258 d_ST_cutOneOf_72 rfl (rc_pl hin3 hat3 rfl rfl) [3, 5] [0, 1, 2, 4, 6, 7, 8, 9, 10, 11] ⟨rfl, rfl⟩ ⟨rfl, rfl, by decide⟩ [0] rfl ⟨⟨by decide, by decide⟩, ⟨by decide, by decide⟩, Nat.le_of_ble_eq_true rfl⟩ ⟨rfl, rfl⟩ ?_
        rintro v w1 p1 t1 ⟨rfl, rfl, rfl⟩
        dsimp only [Option.toList, List.cons_append, List.nil_append, List.append_nil]
        refine vv_sub (ws' := [ob_ST x qsh qpa qcu qtk qrs qt ql (S : Int) le (nS : Int) (nP : Int) (nC : Int) u.nT u.nR rn, ar_Q qsh cS 4 fS, ar_Q qpa cP 8 fP, ob_LY ql qt qp qo (sh_w u.T S (u.Sh b)) (sh_l u.T K S (u.Sh b) u.st), ar_I qp cI 256 (sh_l u.T K S (u.Sh b) u.st).2.2.2.1, ar_I qo cI 8 (sh_l u.T K S (u.Sh b) u.st).2.2.2.2, ob_TB qt qs qc K u.W u.F, ar_I qs cI 2312 u.T.1, ar_I qc cI 2312 u.T.2, ar_Q qcu cC 20 fC, ar_I qtk cI 400 u.tk, ar_I qrs cI 5120 u.rs]) [0, 1, 2, 10, 3, 11, 4, 5, 6, 7, 8, 9] rfl rfl ?_
        refine vv_aload_n d_ST_cutOneOf_75 rfl ?_
        refine vv_aload_n d_ST_cutOneOf_76 rfl ?_
        refine vv_mV hw (wc := [ob_ST x qsh qpa qcu qtk qrs qt ql (S : Int) le (nS : Int) (nP : Int) (nC : Int) u.nT u.nR rn, ar_Q qpa cP 8 fP, ar_I qtk cI 400 u.tk, ar_I qrs cI 5120 u.rs, ob_LY ql qt qp qo (sh_w u.T S (u.Sh b)) (sh_l u.T K S (u.Sh b) u.st), ar_I qp cI 256 (sh_l u.T K S (u.Sh b) u.st).2.2.2.1]) (wr := [ar_Q qsh cS 4 fS, ar_I qo cI 8 (sh_l u.T K S (u.Sh b) u.st).2.2.2.2, ob_TB qt qs qc K u.W u.F, ar_I qs cI 2312 u.T.1, ar_I qc cI 2312 u.T.2, ar_Q qcu cC 20 fC]) [] (c_ST_takePieces (cx_l X) (cx_D X) x qsh qpa qcu qtk qrs qt ql qp qo (sh_l u.T K S (u.Sh b) u.st).1.toNat nC (S : Int) le (nS : Int) (nP : Int) (nC : Int) u.nT u.nR rn (sh_w u.T S (u.Sh b)) (sh_l u.T K S (u.Sh b) u.st) cI cP u.tk u.rs fP L _ aS aP aC _ u.R _ (by have := hlb.1; omega) (by have := hlb.1; omega) hle hnC hfP hp2 hAD ⟨hI.t0, hI.t1⟩ (fun p hp => (hI.po p hp).2.2.2.1) (by have := hlb.1; omega) (fun i hi => hlb.2.2.2 i (by have := hlb.1; omega))) lk_ST_262 d_ST_cutOneOf_77 rfl (rc_at 0 rfl rfl rfl) [0, 2, 10, 11, 3, 4] [1, 5, 6, 7, 8, 9] ⟨rfl, rfl⟩ ⟨rfl, rfl, by decide⟩ [0, 1] rfl ⟨⟨by decide, by decide⟩, ⟨by decide, by decide⟩, Nat.le_of_ble_eq_true rfl⟩ ⟨rfl, rfl⟩ ?_
        rw [hcc, bx_uu]
        rintro v w1 p1 t1 ⟨rfl, rfl, f9, rfl, hp9⟩
        dsimp only [Option.toList, List.cons_append, List.nil_append, List.append_nil]
        refine vv_sub (ws' := [ob_ST x qsh qpa qcu qtk qrs qt ql (S : Int) le (nS : Int) (nP : Int) (nC : Int) (co_ts le K S b nC u).1 (co_ts le K S b nC u).2.1 rn, ar_Q qsh cS 4 fS, ar_Q qpa cP 8 fP, ob_LY ql qt qp qo (sh_w u.T S (u.Sh b)) (sh_l u.T K S (u.Sh b) u.st), ar_I qp cI 256 (sh_l u.T K S (u.Sh b) u.st).2.2.2.1, ar_I qo cI 8 (sh_l u.T K S (u.Sh b) u.st).2.2.2.2, ob_TB qt qs qc K u.W u.F, ar_I qs cI 2312 u.T.1, ar_I qc cI 2312 u.T.2, ar_Q qcu cC 20 fC, ar_I qtk cI 400 (co_ts le K S b nC u).2.2.1, ar_I qrs cI 5120 (co_ts le K S b nC u).2.2.2.1]) [6, 0, 7, 10, 11, 1, 2, 3, 4, 5, 8, 9] rfl rfl ?_
        change PL L f9 aS aP aC (va_up u.Sh b (co_r (u.Sh b))) (co_ts le K S b nC u).2.2.2.2.1 (co_cs le K S b nC u) at hp9
        obtain ⟨hin4, hat4⟩ := hp9.2.2 nC hnC
        have e4 : co_cs le K S b nC u nC = cs_to (co_ts le K S b nC u) := va_up_self _ _ _
        rw [e4] at hat4
        refine vv_aload_n d_ST_cutOneOf_80 rfl ?_
        refine vv_aload_n d_ST_cutOneOf_81 rfl ?_
        refine vv_aload_n d_ST_cutOneOf_82 rfl ?_
        refine vv_pV (wc := [ob_ST x qsh qpa qcu qtk qrs qt ql (S : Int) le (nS : Int) (nP : Int) (nC : Int) (co_ts le K S b nC u).1 (co_ts le K S b nC u).2.1 rn, ar_Q qcu cC 20 fC, ob_TB qt qs qc K u.W u.F]) (plc := va_pl L f9) [.ref (aC nC)] (c_ST_firstAlike (cx_l X) (cx_D X) x qsh qpa qcu qtk qrs qt ql qs qc nC (S : Int) le (nS : Int) (nP : Int) (co_ts le K S b nC u).1 (co_ts le K S b nC u).2.1 rn K u.W u.F cI cC fC L f9 aC (co_cs le K S b nC u) nC hnC (by omega) hfC hp9.2.2 (fun i hi => ?_)) lk_ST_266 d_ST_cutOneOf_83 rfl (rc_at 0 rfl rfl rfl) [0, 9, 6] ⟨rfl, rfl, Or.inr rfl⟩ [0, 3] rfl ⟨⟨by decide, by decide⟩, ⟨by decide, by decide⟩, Nat.le_of_ble_eq_true rfl⟩ ⟨rfl, rfl⟩ ?_
        · unfold co_cs
          by_cases e : i = nC
          · rw [e, va_up_self, co_c0]
            omega
          · rw [va_up_ne _ _ e]
            have := hI.cb i hi
            omega
        intro v hv
        subst hv
        dsimp only [Option.toList, List.cons_append, List.nil_append, List.append_nil]
        refine vv_putP hw d_ST_cutOneOf_86 hin4 hat4 fp_ST_186 rfl rfl (Nat.le_of_ble_eq_true rfl) ?_
        dsimp only [List.set]
        refine vv_aload_n d_ST_cutOneOf_89 rfl ?_
        refine vv_dup d_ST_cutOneOf_90 rfl ?_
        refine vv_get d_ST_cutOneOf_91 0 rfl fl_ST_41 rfl ?_
        refine vv_iconst d_ST_cutOneOf_94 ?_
        refine vv_iadd d_ST_cutOneOf_95 ?_
        refine vv_put hw d_ST_cutOneOf_96 0 rfl fp_ST_41 rfl rfl (Nat.le_of_ble_eq_true rfl) ?_
        dsimp only [List.set]
        have hp10 := PL_C (i := nC) (c := va_up (cs_to (co_ts le K S b nC u)) 12 ((co_fa le K S b nC u : Nat) : Int)) hp9 hAD hnC
        unfold co_cs at hp10
        rw [bx_uu] at hp10
        exact vv_vret hA hw hr d_ST_cutOneOf_99 (by decide) (by decide) ⟨rfl, rfl, _, rfl, hp10⟩
      · exfalso; omega
end
section
/-! SheetTrees.run -/
theorem pu_bit {co : Nat → Int} {p : Nat} : ∀ n : Nat, bitm (pu_m co n) p ↔ p < n ∧ 0 < co p
  | 0 => by
    unfold pu_m bitm
    rw [Nat.zero_div]
    exact ⟨fun h => absurd h (by decide), fun h => absurd h.1 (by omega)⟩
  | n + 1 => by
    have ih := pu_bit (co := co) (p := p) n
    have ht : ∀ m : Nat, bitm m p ↔ m.testBit p = true := fun m => by
      unfold bitm
      rw [Nat.testBit_eq_decide_div_mod_eq, decide_eq_true_eq]
    rw [ht] at ih ⊢
    unfold pu_m
    rw [Nat.testBit_or, Bool.or_eq_true, ih]
    have h2 : (if 0 < co n then 2 ^ n else 0).testBit p = true ↔ p = n ∧ 0 < co p := by
      split
      · rename_i hp
        rw [Nat.testBit_two_pow, decide_eq_true_eq]
        exact ⟨fun e => ⟨e.symm, by rw [← e]; exact hp⟩, fun e => e.1.symm⟩
      · rename_i hp
        rw [Nat.zero_testBit]
        exact ⟨fun e => Bool.noConfusion e, fun e => absurd (by rw [← e.1]; exact e.2) hp⟩
    rw [h2]
    constructor
    · rintro (h | h)
      · exact ⟨by omega, h.2⟩
      · exact ⟨by omega, h.2⟩
    · intro h
      by_cases e : p = n
      · exact Or.inr ⟨e, h.2⟩
      · exact Or.inl ⟨by omega, h.2⟩
theorem pu_lt {co : Nat → Int} : ∀ n : Nat, pu_m co n < 2 ^ n
  | 0 => by unfold pu_m; decide
  | n + 1 => by
    have ih := pu_lt (co := co) n
    unfold pu_m
    refine Nat.or_lt_two_pow ?_ ?_
    · rw [Nat.pow_succ]
      omega
    · split
      · rw [Nat.pow_succ]
        have := Nat.two_pow_pos n
        omega
      · exact Nat.two_pow_pos _
theorem pu_256 {co : Nat → Int} {n : Nat} (hn : n ≤ 8) : pu_m co n < 256 := Nat.lt_of_lt_of_le (pu_lt n) (show 2 ^ n ≤ 2 ^ 8 from Nat.pow_le_pow_right (by decide) hn)
def rn_m (nP : Nat) (u : RS) : Nat := pu_m (fun p => (u.R p).2.2.2.2) nP
def fl_u (K : Int) (S nP : Nat) (u : RS) : RS := (u.nT, u.nR, u.tk, u.rs, u.R, u.Sh, u.Cs, u.way, u.st, fl_T K u.R (rn_m nP u) S u.W u.F u.T, ((rn_m nP u : Nat) : Int), fl_G (rn_m nP u) S u.W u.F)
def bs_of (K : Int) (S nS : Nat) (u : RS) : bs_T := bs_go u.T K S u.R u.Sh (-1, 0, 1, u.way, u.st) nS
def bs_u (K : Int) (S nS : Nat) (u : RS) : RS := (u.nT, u.nR, u.tk, u.rs, u.R, u.Sh, u.Cs, (bs_of K S nS u).2.2.2.1, (bs_of K S nS u).2.2.2.2, u.T, u.W, u.F)
def st_u (nS nP : Nat) (u : RS) : RS := (0, 0, u.tk, u.rs, sr_S u.R nP, sr_S u.Sh nS, u.Cs, u.way, u.st, u.T, u.W, u.F)
def run_go (le K : Int) (S nS nP : Nat) : Nat → Nat → RS → Nat × RS
  | 0, i, u => (i, u)
  | n + 1, i, u => if (bs_of K S nS (fl_u K S nP u)).1 = -1 then (i, bs_u K S nS (fl_u K S nP u)) else run_go le K S nS nP n (i + 1) (co_step le K S (bs_of K S nS (fl_u K S nP u)).1.toNat i (bs_u K S nS (fl_u K S nP u)))
theorem RI_PW {nS nP i : Nat} {u : RS} (h : RI nS nP i u) (hP : nP ≤ 8) : PW u.R (rn_m nP u) := fun p hp hb => by
  have h1 := (pu_bit nP).mp hb
  have h2 := h.pw p h1.1
  have h3 := h.po p hp
  unfold PO at h3
  omega
theorem RI_fl {nS nP i S : Nat} {K : Int} {u : RS} (h : RI nS nP i u) (hP : nP ≤ 8) (hS : S ≤ 3) (hK : 0 ≤ K) : RI nS nP i (fl_u K S nP u) ∧ TI (fl_u K S nP u).T.1 ∧ CX (ar_of u.R) (rn_m nP u) (fl_u K S nP u).T.2 := by
  have h1 := HT_fl (S := (S : Int)) hK (by omega) h.f0 (RI_PW h hP) h.ht
  have h2 : rn_m nP u < 256 := pu_256 hP
  exact ⟨⟨h.t0, h.t1, h.r0, h.r1, h.so, h.po, h.pz, h.pw, HT_of h1.1 h1.2.1, ⟨by show -1 ≤ ((rn_m nP u : Nat) : Int); omega, by show ((rn_m nP u : Nat) : Int) < 256; omega⟩, h1.2.2, h.cb⟩, h1.1, h1.2.1⟩
theorem RI_bs {nS nP i S : Nat} {K : Int} {u : RS} (h : RI nS nP i u) : RI nS nP i (bs_u K S nS u) := h
theorem bs_un {T : tp_T} {K : Int} {S : Nat} {R Sh : Nat → pa_T} {b : bs_T} (hb : b.1 = -1) : ∀ n : Nat, (bs_go T K S R Sh b n).1 = -1 ∨ 0 < (Sh (bs_go T K S R Sh b n).1.toNat).2.2.2.2
  | 0 => Or.inl hb
  | n + 1 => by
    have ih := bs_un (T := T) (K := K) (S := S) (R := R) (Sh := Sh) hb n
    show (bs_step T K S R (Sh n) n (bs_go T K S R Sh b n)).1 = -1 ∨ 0 < (Sh (bs_step T K S R (Sh n) n (bs_go T K S R Sh b n)).1.toNat).2.2.2.2
    unfold bs_step
    split
    · rename_i hu
      split
      · refine Or.inr ?_
        show 0 < (Sh ((n : Int)).toNat).2.2.2.2
        rw [Int.toNat_natCast]
        exact hu
      · exact ih
    · exact ih
theorem bs_ok {nS nP i S : Nat} {K : Int} {u : RS} (h : RI nS nP i u) (hP : nP ≤ 8) (hS : S ≤ 3) (hK : 0 ≤ K) : -1 ≤ (bs_of K S nS (fl_u K S nP u)).1 ∧ (bs_of K S nS (fl_u K S nP u)).1 < nS ∧ ((bs_of K S nS (fl_u K S nP u)).1 = -1 ∨ 0 < ((fl_u K S nP u).Sh (bs_of K S nS (fl_u K S nP u)).1.toNat).2.2.2.2) := by
  obtain ⟨h1, h2, h3⟩ := RI_fl h hP hS hK
  have h4 := BI_go (way := u.way) (st := u.st) (Sh := u.Sh) h3 hK hS h.po nS h.so
  exact ⟨h4.1.1, h4.1.2, bs_un rfl nS⟩
set_option maxHeartbeats 4000000 in
set_option maxRecDepth 100000 in
theorem c_ST_run (l : Launch) (D : va_G) (x qsh qpa qcu qtk qrs qt ql qp qo qs qc nS nP S : Nat) (le rn K : Int) (cI cP cS cC : ClassId) (fS fP fC : Nat → Option Nat) (L : List Nat) (f : Nat → va_E) (aS aP aC : Nat → Nat) (hnS : nS ≤ 4) (hnP : nP ≤ 8) (hS : S ≤ 3) (hK : 0 ≤ K ∧ K ≤ 3) (hle : 1 ≤ le ∧ le ≤ 16) (hfS : ∀ i : Nat, i < 4 → fS i = some (aS i)) (hfP : ∀ i : Nat, i < 8 → fP i = some (aP i)) (hfC : ∀ i : Nat, i < 20 → fC i = some (aC i)) (hAD : AD aS aP aC) (u : RS) (nC : Int) (hI : RI nS nP 0 (st_u nS nP u)) (hPL : PL L f aS aP aC u.Sh u.R u.Cs) : CM l y_ST_run b_ST_run 3 (some .int) rm_8 [.ref x] D [(cI, .int), (cP, .object "SheetTrees$Part"), (cS, .object "SheetTrees$Sheet"), (cC, .object "SheetTrees$CutSheet")] ([ob_ST x qsh qpa qcu qtk qrs qt ql (S : Int) le (nS : Int) (nP : Int) nC u.nT u.nR rn, ar_Q qsh cS 4 fS, ar_Q qpa cP 8 fP, ob_LY ql qt qp qo u.way u.st, ar_I qp cI 256 u.st.2.2.2.1, ar_I qo cI 8 u.st.2.2.2.2, ob_TB qt qs qc K u.W u.F, ar_I qs cI 2312 u.T.1, ar_I qc cI 2312 u.T.2, ar_Q qcu cC 20 fC, ar_I qtk cI 400 u.tk, ar_I qrs cI 5120 u.rs] ++ va_pl L f) (fun v w1 p1 _ => v = some (.int (iI (((run_go le K S nS nP 20 0 (st_u nS nP u)).1 : Nat) : Int))) ∧ w1 = [ob_ST x qsh qpa qcu qtk qrs qt ql (S : Int) le (nS : Int) (nP : Int) (((run_go le K S nS nP 20 0 (st_u nS nP u)).1 : Nat) : Int) (run_go le K S nS nP 20 0 (st_u nS nP u)).2.nT (run_go le K S nS nP 20 0 (st_u nS nP u)).2.nR 1, ar_Q qsh cS 4 fS, ar_Q qpa cP 8 fP, ob_LY ql qt qp qo (run_go le K S nS nP 20 0 (st_u nS nP u)).2.way (run_go le K S nS nP 20 0 (st_u nS nP u)).2.st, ar_I qp cI 256 (run_go le K S nS nP 20 0 (st_u nS nP u)).2.st.2.2.2.1, ar_I qo cI 8 (run_go le K S nS nP 20 0 (st_u nS nP u)).2.st.2.2.2.2, ob_TB qt qs qc K (run_go le K S nS nP 20 0 (st_u nS nP u)).2.W (run_go le K S nS nP 20 0 (st_u nS nP u)).2.F, ar_I qs cI 2312 (run_go le K S nS nP 20 0 (st_u nS nP u)).2.T.1, ar_I qc cI 2312 (run_go le K S nS nP 20 0 (st_u nS nP u)).2.T.2, ar_Q qcu cC 20 fC, ar_I qtk cI 400 (run_go le K S nS nP 20 0 (st_u nS nP u)).2.tk, ar_I qrs cI 5120 (run_go le K S nS nP 20 0 (st_u nS nP u)).2.rs] ∧ ∃ f9, p1 = va_pl L f9 ∧ PL L f9 aS aP aC (run_go le K S nS nP 20 0 (st_u nS nP u)).2.Sh (run_go le K S nS nP 20 0 (st_u nS nP u)).2.R (run_go le K S nS nP 20 0 (st_u nS nP u)).2.Cs) := by
  refine cm_of (by decide) (Nat.le_of_ble_eq_true rfl) ?_
  intro X sz hl hr hnm hD hA hw
  subst hD
  have fin : ∀ (i : Nat) (w : RS) (f1 : Nat → va_E) (v1 v2 : Option Value), (i, w) = (run_go le K S nS nP 20 0 (st_u nS nP u)) → PL L f1 aS aP aC w.Sh w.R w.Cs → VV X (b_ST_run, 3, "SheetTrees", rm_8) (cq X ([ob_ST x qsh qpa qcu qtk qrs qt ql (S : Int) le (nS : Int) (nP : Int) nC u.nT u.nR rn, ar_Q qsh cS 4 fS, ar_Q qpa cP 8 fP, ob_LY ql qt qp qo u.way u.st, ar_I qp cI 256 u.st.2.2.2.1, ar_I qo cI 8 u.st.2.2.2.2, ob_TB qt qs qc K u.W u.F, ar_I qs cI 2312 u.T.1, ar_I qc cI 2312 u.T.2, ar_Q qcu cC 20 fC, ar_I qtk cI 400 u.tk, ar_I qrs cI 5120 u.rs] ++ va_pl L f) sz (fun v w1 p1 _ => v = some (.int (iI (((run_go le K S nS nP 20 0 (st_u nS nP u)).1 : Nat) : Int))) ∧ w1 = [ob_ST x qsh qpa qcu qtk qrs qt ql (S : Int) le (nS : Int) (nP : Int) (((run_go le K S nS nP 20 0 (st_u nS nP u)).1 : Nat) : Int) (run_go le K S nS nP 20 0 (st_u nS nP u)).2.nT (run_go le K S nS nP 20 0 (st_u nS nP u)).2.nR 1, ar_Q qsh cS 4 fS, ar_Q qpa cP 8 fP, ob_LY ql qt qp qo (run_go le K S nS nP 20 0 (st_u nS nP u)).2.way (run_go le K S nS nP 20 0 (st_u nS nP u)).2.st, ar_I qp cI 256 (run_go le K S nS nP 20 0 (st_u nS nP u)).2.st.2.2.2.1, ar_I qo cI 8 (run_go le K S nS nP 20 0 (st_u nS nP u)).2.st.2.2.2.2, ob_TB qt qs qc K (run_go le K S nS nP 20 0 (st_u nS nP u)).2.W (run_go le K S nS nP 20 0 (st_u nS nP u)).2.F, ar_I qs cI 2312 (run_go le K S nS nP 20 0 (st_u nS nP u)).2.T.1, ar_I qc cI 2312 (run_go le K S nS nP 20 0 (st_u nS nP u)).2.T.2, ar_Q qcu cC 20 fC, ar_I qtk cI 400 (run_go le K S nS nP 20 0 (st_u nS nP u)).2.tk, ar_I qrs cI 5120 (run_go le K S nS nP 20 0 (st_u nS nP u)).2.rs] ∧ ∃ f9, p1 = va_pl L f9 ∧ PL L f9 aS aP aC (run_go le K S nS nP 20 0 (st_u nS nP u)).2.Sh (run_go le K S nS nP 20 0 (st_u nS nP u)).2.R (run_go le K S nS nP 20 0 (st_u nS nP u)).2.Cs) rm_8) 0 0 [(cI, .int), (cP, .object "SheetTrees$Part"), (cS, .object "SheetTrees$Sheet"), (cC, .object "SheetTrees$CutSheet")] [ob_ST x qsh qpa qcu qtk qrs qt ql (S : Int) le (nS : Int) (nP : Int) (i : Int) w.nT w.nR rn, ar_Q qsh cS 4 fS, ar_Q qpa cP 8 fP, ob_LY ql qt qp qo w.way w.st, ar_I qp cI 256 w.st.2.2.2.1, ar_I qo cI 8 w.st.2.2.2.2, ob_TB qt qs qc K w.W w.F, ar_I qs cI 2312 w.T.1, ar_I qc cI 2312 w.T.2, ar_Q qcu cC 20 fC, ar_I qtk cI 400 w.tk, ar_I qrs cI 5120 w.rs] (va_pl L f1) [some (.ref x), v1, v2] [] 55 := by
    intro i w f1 v1 v2 hf hp
    refine vv_aload_n d_ST_run_55 rfl ?_
    refine vv_iconst d_ST_run_56 ?_
    refine vv_put hw d_ST_run_57 0 rfl fp_ST_50 rfl rfl (Nat.le_of_ble_eq_true rfl) ?_
    dsimp only [List.set]
    refine vv_aload_n d_ST_run_60 rfl ?_
    refine vv_get d_ST_run_61 0 rfl fl_ST_41 rfl ?_
    exact vv_iret hA hw hr d_ST_run_64 (by decide) (by decide) (by rw [← hf]; exact ⟨rfl, rfl, f1, rfl, hp⟩)
  have loop : ∀ n i : Nat, i + n = 20 → ∀ (w : RS) (f1 : Nat → va_E) (v2 : Option Value), (run_go le K S nS nP n i w) = (run_go le K S nS nP 20 0 (st_u nS nP u)) → RI nS nP i w → PL L f1 aS aP aC w.Sh w.R w.Cs → VV X (b_ST_run, 3, "SheetTrees", rm_8) (cq X ([ob_ST x qsh qpa qcu qtk qrs qt ql (S : Int) le (nS : Int) (nP : Int) nC u.nT u.nR rn, ar_Q qsh cS 4 fS, ar_Q qpa cP 8 fP, ob_LY ql qt qp qo u.way u.st, ar_I qp cI 256 u.st.2.2.2.1, ar_I qo cI 8 u.st.2.2.2.2, ob_TB qt qs qc K u.W u.F, ar_I qs cI 2312 u.T.1, ar_I qc cI 2312 u.T.2, ar_Q qcu cC 20 fC, ar_I qtk cI 400 u.tk, ar_I qrs cI 5120 u.rs] ++ va_pl L f) sz (fun v w1 p1 _ => v = some (.int (iI (((run_go le K S nS nP 20 0 (st_u nS nP u)).1 : Nat) : Int))) ∧ w1 = [ob_ST x qsh qpa qcu qtk qrs qt ql (S : Int) le (nS : Int) (nP : Int) (((run_go le K S nS nP 20 0 (st_u nS nP u)).1 : Nat) : Int) (run_go le K S nS nP 20 0 (st_u nS nP u)).2.nT (run_go le K S nS nP 20 0 (st_u nS nP u)).2.nR 1, ar_Q qsh cS 4 fS, ar_Q qpa cP 8 fP, ob_LY ql qt qp qo (run_go le K S nS nP 20 0 (st_u nS nP u)).2.way (run_go le K S nS nP 20 0 (st_u nS nP u)).2.st, ar_I qp cI 256 (run_go le K S nS nP 20 0 (st_u nS nP u)).2.st.2.2.2.1, ar_I qo cI 8 (run_go le K S nS nP 20 0 (st_u nS nP u)).2.st.2.2.2.2, ob_TB qt qs qc K (run_go le K S nS nP 20 0 (st_u nS nP u)).2.W (run_go le K S nS nP 20 0 (st_u nS nP u)).2.F, ar_I qs cI 2312 (run_go le K S nS nP 20 0 (st_u nS nP u)).2.T.1, ar_I qc cI 2312 (run_go le K S nS nP 20 0 (st_u nS nP u)).2.T.2, ar_Q qcu cC 20 fC, ar_I qtk cI 400 (run_go le K S nS nP 20 0 (st_u nS nP u)).2.tk, ar_I qrs cI 5120 (run_go le K S nS nP 20 0 (st_u nS nP u)).2.rs] ∧ ∃ f9, p1 = va_pl L f9 ∧ PL L f9 aS aP aC (run_go le K S nS nP 20 0 (st_u nS nP u)).2.Sh (run_go le K S nS nP 20 0 (st_u nS nP u)).2.R (run_go le K S nS nP 20 0 (st_u nS nP u)).2.Cs) rm_8) 0 0 [(cI, .int), (cP, .object "SheetTrees$Part"), (cS, .object "SheetTrees$Sheet"), (cC, .object "SheetTrees$CutSheet")] [ob_ST x qsh qpa qcu qtk qrs qt ql (S : Int) le (nS : Int) (nP : Int) (i : Int) w.nT w.nR rn, ar_Q qsh cS 4 fS, ar_Q qpa cP 8 fP, ob_LY ql qt qp qo w.way w.st, ar_I qp cI 256 w.st.2.2.2.1, ar_I qo cI 8 w.st.2.2.2.2, ob_TB qt qs qc K w.W w.F, ar_I qs cI 2312 w.T.1, ar_I qc cI 2312 w.T.2, ar_Q qcu cC 20 fC, ar_I qtk cI 400 w.tk, ar_I qrs cI 5120 w.rs] (va_pl L f1) [some (.ref x), some (.int (iI (i : Int))), v2] [] 6 := by
    intro n
    induction n with
    | zero =>
      intro i hi w f1 v2 hf hri hp
      have hi2 : i = 20 := by omega
      subst hi2
      refine vv_iload_n d_ST_run_6 rfl ?_
      refine vv_bipush d_ST_run_7 (by decide +kernel) ?_
      refine vv_icmp_ge (tgt := 55) d_ST_run_9 (by decide) ⟨by omega, by omega⟩ (fun c9 => ?_) (fun c9 => ?_)
      · skip
        exact fin 20 w f1 _ _ hf hp
      · exfalso; omega
    | succ n ih =>
      intro i hi w f1 v2 hf hri hp
      have hi20 : i < 20 := by omega
      obtain ⟨hri1, hti, hcx⟩ := RI_fl hri hnP hS hK.1
      obtain ⟨hb1, hb2, hb3⟩ := bs_ok hri hnP hS hK.1
      have hm256 : (rn_m nP w) < 256 := pu_256 hnP
      have hfl := hri.f0
      have hw0 := hri.w0
      have hfn := hf
      unfold run_go at hfn
      refine vv_iload_n d_ST_run_6 rfl ?_
      refine vv_bipush d_ST_run_7 (by decide +kernel) ?_
      refine vv_icmp_ge (tgt := 55) d_ST_run_9 (by decide) ⟨by omega, by omega⟩ (fun c9 => ?_) (fun c9 => ?_)
      · exfalso; omega
      · skip
        refine vv_aload_n d_ST_run_12 rfl ?_
        refine vv_get d_ST_run_13 0 rfl fl_ST_69 rfl ?_
        refine vv_aload_n d_ST_run_16 rfl ?_
        refine vv_get d_ST_run_17 0 rfl fl_ST_17 rfl ?_
        refine vv_aload_n d_ST_run_20 rfl ?_
        refine vv_pV (wc := [ob_ST x qsh qpa qcu qtk qrs qt ql (S : Int) le (nS : Int) (nP : Int) (i : Int) w.nT w.nR rn, ar_Q qpa cP 8 fP]) (plc := va_pl L f1) [.ref qpa, .ref qt] (c_ST_partsStillWanted (cx_l X) (cx_D X) x qsh qpa qcu qtk qrs qt ql nP (S : Int) le (nS : Int) (i : Int) w.nT w.nR rn cP fP L f1 aP w.R hnP hfP hp.2.1 (fun p hp => by have := (hri.po p hp).2.2.2; omega)) lk_ST_156 d_ST_run_21 rfl (rc_at 0 rfl rfl rfl) [0, 2] ⟨rfl, rfl, Or.inr rfl⟩ [1] rfl ⟨⟨by decide, by decide⟩, ⟨by decide, by decide⟩, Nat.le_of_ble_eq_true rfl⟩ ⟨rfl, rfl⟩ ?_
        intro v hv
        subst hv
        dsimp only [Option.toList, List.cons_append, List.nil_append, List.append_nil]
        refine vv_aload_n d_ST_run_24 rfl ?_
        refine vv_get d_ST_run_25 0 rfl fl_ST_58 rfl ?_
        refine vv_mV hw (wc := [ob_TB qt qs qc K w.W w.F, ar_I qs cI 2312 w.T.1, ar_I qc cI 2312 w.T.2, ar_Q qpa cP 8 fP]) (wr := [ob_ST x qsh qpa qcu qtk qrs qt ql (S : Int) le (nS : Int) (nP : Int) (i : Int) w.nT w.nR rn, ar_Q qsh cS 4 fS, ob_LY ql qt qp qo w.way w.st, ar_I qp cI 256 w.st.2.2.2.1, ar_I qo cI 8 w.st.2.2.2.2, ar_Q qcu cC 20 fC, ar_I qtk cI 400 w.tk, ar_I qrs cI 5120 w.rs]) [] (c_TB_fill (cx_l X) (cx_D X) cI cP qt qs qc qpa (rn_m nP w) K w.W w.F (S : Int) w.T fP L f1 aP w.R hK hm256 (by omega) hfl (by omega) (fun e => (hri.ht _ e).1) hfP hp.2.1 (RI_PW hri hnP) hri.pz) lk_ST_145 d_ST_run_28 rfl (rc_at 6 rfl rfl rfl) [6, 7, 8, 2] [0, 1, 3, 4, 5, 9, 10, 11] ⟨rfl, rfl⟩ ⟨rfl, rfl, by decide⟩ [0, 1] rfl ⟨⟨by decide, by decide⟩, ⟨by decide, by decide⟩, Nat.le_of_ble_eq_true rfl⟩ ⟨rfl, rfl⟩ ?_
        rintro v w1 p1 t1 ⟨rfl, rfl, rfl⟩
        dsimp only [Option.toList, List.cons_append, List.nil_append, List.append_nil]
        refine vv_sub (ws' := [ob_ST x qsh qpa qcu qtk qrs qt ql (S : Int) le (nS : Int) (nP : Int) (i : Int) (fl_u K S nP w).nT (fl_u K S nP w).nR rn, ar_Q qsh cS 4 fS, ar_Q qpa cP 8 fP, ob_LY ql qt qp qo (fl_u K S nP w).way (fl_u K S nP w).st, ar_I qp cI 256 (fl_u K S nP w).st.2.2.2.1, ar_I qo cI 8 (fl_u K S nP w).st.2.2.2.2, ob_TB qt qs qc K (fl_u K S nP w).W (fl_u K S nP w).F, ar_I qs cI 2312 (fl_u K S nP w).T.1, ar_I qc cI 2312 (fl_u K S nP w).T.2, ar_Q qcu cC 20 fC, ar_I qtk cI 400 (fl_u K S nP w).tk, ar_I qrs cI 5120 (fl_u K S nP w).rs]) [0, 1, 11, 2, 3, 4, 8, 9, 10, 5, 6, 7] rfl rfl ?_
        refine vv_aload_n d_ST_run_31 rfl ?_
        refine vv_mV hw (wc := [ob_ST x qsh qpa qcu qtk qrs qt ql (S : Int) le (nS : Int) (nP : Int) (i : Int) (fl_u K S nP w).nT (fl_u K S nP w).nR rn, ar_Q qsh cS 4 fS, ar_Q qpa cP 8 fP, ob_LY ql qt qp qo (fl_u K S nP w).way (fl_u K S nP w).st, ar_I qp cI 256 (fl_u K S nP w).st.2.2.2.1, ar_I qo cI 8 (fl_u K S nP w).st.2.2.2.2, ob_TB qt qs qc K (fl_u K S nP w).W (fl_u K S nP w).F, ar_I qs cI 2312 (fl_u K S nP w).T.1, ar_I qc cI 2312 (fl_u K S nP w).T.2]) (wr := [ar_Q qcu cC 20 fC, ar_I qtk cI 400 (fl_u K S nP w).tk, ar_I qrs cI 5120 (fl_u K S nP w).rs]) [] (c_ST_bestSheet (cx_l X) (cx_D X) x qsh qpa qcu qtk qrs qt ql qp qo qs qc nS S (rn_m nP w) le (nP : Int) (i : Int) (fl_u K S nP w).nT (fl_u K S nP w).nR rn (fl_u K S nP w).way K (fl_u K S nP w).W (fl_u K S nP w).F (fl_u K S nP w).T (fl_u K S nP w).st cI cP cS fS fP L f1 aS aP aC (fl_u K S nP w).Sh (fl_u K S nP w).R (fl_u K S nP w).Cs hnS hS hK hti hcx hfS hfP hp hri.so hri.po) lk_ST_159 d_ST_run_32 rfl (rc_at 0 rfl rfl rfl) [0, 1, 2, 3, 4, 5, 6, 7, 8] [9, 10, 11] ⟨rfl, rfl⟩ ⟨rfl, rfl, by decide⟩ [0, 1, 2] rfl ⟨⟨by decide, by decide⟩, ⟨by decide, by decide⟩, Nat.le_of_ble_eq_true rfl⟩ ⟨rfl, rfl⟩ ?_
        rintro v w1 p1 t1 ⟨rfl, rfl, rfl⟩
        dsimp only [Option.toList, List.cons_append, List.nil_append, List.append_nil]
        refine vv_sub (ws' := [ob_ST x qsh qpa qcu qtk qrs qt ql (S : Int) le (nS : Int) (nP : Int) (i : Int) (bs_u K S nS (fl_u K S nP w)).nT (bs_u K S nS (fl_u K S nP w)).nR rn, ar_Q qsh cS 4 fS, ar_Q qpa cP 8 fP, ob_LY ql qt qp qo (bs_u K S nS (fl_u K S nP w)).way (bs_u K S nS (fl_u K S nP w)).st, ar_I qp cI 256 (bs_u K S nS (fl_u K S nP w)).st.2.2.2.1, ar_I qo cI 8 (bs_u K S nS (fl_u K S nP w)).st.2.2.2.2, ob_TB qt qs qc K (bs_u K S nS (fl_u K S nP w)).W (bs_u K S nS (fl_u K S nP w)).F, ar_I qs cI 2312 (bs_u K S nS (fl_u K S nP w)).T.1, ar_I qc cI 2312 (bs_u K S nS (fl_u K S nP w)).T.2, ar_Q qcu cC 20 fC, ar_I qtk cI 400 (bs_u K S nS (fl_u K S nP w)).tk, ar_I qrs cI 5120 (bs_u K S nS (fl_u K S nP w)).rs]) [3, 4, 5, 6, 7, 8, 9, 10, 11, 0, 1, 2] rfl rfl ?_
        change VV _ _ _ _ _ _ _ _ _ [.int (iI (bs_of K S nS (fl_u K S nP w)).1)] _
        refine vv_istore_n d_ST_run_35 rfl (by decide) ?_
        dsimp only [List.set]
        refine vv_iload_n d_ST_run_36 rfl ?_
        refine vv_iconst d_ST_run_37 ?_
        refine vv_icmp_ne (tgt := 44) d_ST_run_38 (by decide) ⟨by omega, by omega⟩ (fun c38 => ?_) (fun c38 => ?_)
        · skip
          rw [if_neg (by omega)] at hfn
          have hri3 : RI nS nP (i + 1) (co_step le K S (bs_of K S nS (fl_u K S nP w)).1.toNat i (bs_u K S nS (fl_u K S nP w))) := RI_co (m := (rn_m nP w)) (RI_bs hri1) hS hK.1 (by omega) (by omega) hi20 rfl (hb3.resolve_left (by omega))
          have eb : iI (bs_of K S nS (fl_u K S nP w)).1 = iI (((bs_of K S nS (fl_u K S nP w)).1.toNat : Nat) : Int) := by rw [Int.toNat_of_nonneg (by omega)]
          rw [eb]
          refine vv_aload_n d_ST_run_44 rfl ?_
          refine vv_iload_n d_ST_run_45 rfl ?_
          refine vv_mV hw (wc := [ob_ST x qsh qpa qcu qtk qrs qt ql (S : Int) le (nS : Int) (nP : Int) (i : Int) (bs_u K S nS (fl_u K S nP w)).nT (bs_u K S nS (fl_u K S nP w)).nR rn, ar_Q qsh cS 4 fS, ar_Q qpa cP 8 fP, ob_LY ql qt qp qo (bs_u K S nS (fl_u K S nP w)).way (bs_u K S nS (fl_u K S nP w)).st, ar_I qp cI 256 (bs_u K S nS (fl_u K S nP w)).st.2.2.2.1, ar_I qo cI 8 (bs_u K S nS (fl_u K S nP w)).st.2.2.2.2, ob_TB qt qs qc K (bs_u K S nS (fl_u K S nP w)).W (bs_u K S nS (fl_u K S nP w)).F, ar_I qs cI 2312 (bs_u K S nS (fl_u K S nP w)).T.1, ar_I qc cI 2312 (bs_u K S nS (fl_u K S nP w)).T.2, ar_Q qcu cC 20 fC, ar_I qtk cI 400 (bs_u K S nS (fl_u K S nP w)).tk, ar_I qrs cI 5120 (bs_u K S nS (fl_u K S nP w)).rs]) (wr := []) [] (c_ST_cutOneOf (cx_l X) (cx_D X) x qsh qpa qcu qtk qrs qt ql qp qo qs qc nS nP S le rn K cI cP cS cC fS fP fC L f1 aS aP aC hnS hnP hS hK hle hfS hfP hfC hAD (bs_u K S nS (fl_u K S nP w)) (bs_of K S nS (fl_u K S nP w)).1.toNat i (rn_m nP w) (by omega) (by omega) hi20 (RI_bs hri1) rfl (hb3.resolve_left (by omega)) hp) lk_ST_162 d_ST_run_46 rfl (rc_at 0 rfl rfl rfl) [0, 1, 2, 3, 4, 5, 6, 7, 8, 9, 10, 11] [] ⟨rfl, rfl⟩ ⟨rfl, rfl, by decide⟩ [0, 1, 2, 3] rfl ⟨⟨by decide, by decide⟩, ⟨by decide, by decide⟩, Nat.le_of_ble_eq_true rfl⟩ ⟨rfl, rfl⟩ ?_
          rintro v w1 p1 t1 ⟨rfl, rfl, f9, rfl, hp9⟩
          dsimp only [Option.toList, List.cons_append, List.nil_append, List.append_nil]
          refine vv_iinc d_ST_run_49 rfl rfl (by decide) ?_
          dsimp only [List.set]
          refine vv_goto (tgt := 6) d_ST_run_52 (by decide) ?_
          exact ih (i + 1) (by omega) _ _ _ hfn hri3 hp9
        · skip
          refine vv_goto (tgt := 55) d_ST_run_41 (by decide) ?_
          rw [if_pos (by omega)] at hfn
          exact fin i _ f1 _ _ hfn hp
  show VV X (b_ST_run, 3, "SheetTrees", rm_8) _ 0 0 [(cI, .int), (cP, .object "SheetTrees$Part"), (cS, .object "SheetTrees$Sheet"), (cC, .object "SheetTrees$CutSheet")] [ob_ST x qsh qpa qcu qtk qrs qt ql (S : Int) le (nS : Int) (nP : Int) nC u.nT u.nR rn, ar_Q qsh cS 4 fS, ar_Q qpa cP 8 fP, ob_LY ql qt qp qo u.way u.st, ar_I qp cI 256 u.st.2.2.2.1, ar_I qo cI 8 u.st.2.2.2.2, ob_TB qt qs qc K u.W u.F, ar_I qs cI 2312 u.T.1, ar_I qc cI 2312 u.T.2, ar_Q qcu cC 20 fC, ar_I qtk cI 400 u.tk, ar_I qrs cI 5120 u.rs] (va_pl L f) [some (.ref x), none, none] [] 0
  refine vv_aload_n d_ST_run_0 rfl ?_
  refine vv_mV hw (wc := [ob_ST x qsh qpa qcu qtk qrs qt ql (S : Int) le (nS : Int) (nP : Int) nC u.nT u.nR rn, ar_Q qsh cS 4 fS, ar_Q qpa cP 8 fP]) (wr := [ob_LY ql qt qp qo u.way u.st, ar_I qp cI 256 u.st.2.2.2.1, ar_I qo cI 8 u.st.2.2.2.2, ob_TB qt qs qc K u.W u.F, ar_I qs cI 2312 u.T.1, ar_I qc cI 2312 u.T.2, ar_Q qcu cC 20 fC, ar_I qtk cI 400 u.tk, ar_I qrs cI 5120 u.rs]) [] (c_ST_startRun (cx_l X) (cx_D X) x qsh qpa qcu qtk qrs qt ql nS nP (S : Int) le nC u.nT u.nR rn cS cP fS fP L f aS aP aC u.Sh u.R u.Cs hnS hnP hfS hfP hPL hAD) lk_ST_153 d_ST_run_1 rfl (rc_at 0 rfl rfl rfl) [0, 1, 2] [3, 4, 5, 6, 7, 8, 9, 10, 11] ⟨rfl, rfl⟩ ⟨rfl, rfl, by decide⟩ [2, 1] rfl ⟨⟨by decide, by decide⟩, ⟨by decide, by decide⟩, Nat.le_of_ble_eq_true rfl⟩ ⟨rfl, rfl⟩ ?_
  rintro v w1 p1 t1 ⟨rfl, rfl, f1, rfl, hp1⟩
  dsimp only [Option.toList, List.cons_append, List.nil_append, List.append_nil]
  refine vv_sub (ws' := [ob_ST x qsh qpa qcu qtk qrs qt ql (S : Int) le (nS : Int) (nP : Int) ((0 : Nat) : Int) (st_u nS nP u).nT (st_u nS nP u).nR rn, ar_Q qsh cS 4 fS, ar_Q qpa cP 8 fP, ob_LY ql qt qp qo (st_u nS nP u).way (st_u nS nP u).st, ar_I qp cI 256 (st_u nS nP u).st.2.2.2.1, ar_I qo cI 8 (st_u nS nP u).st.2.2.2.2, ob_TB qt qs qc K (st_u nS nP u).W (st_u nS nP u).F, ar_I qs cI 2312 (st_u nS nP u).T.1, ar_I qc cI 2312 (st_u nS nP u).T.2, ar_Q qcu cC 20 fC, ar_I qtk cI 400 (st_u nS nP u).tk, ar_I qrs cI 5120 (st_u nS nP u).rs]) [9, 10, 11, 0, 1, 2, 3, 4, 5, 6, 7, 8] rfl rfl ?_
  refine vv_iconst d_ST_run_4 ?_
  refine vv_istore_n d_ST_run_5 rfl (by decide) ?_
  dsimp only [List.set]
  exact loop 20 0 (by omega) (st_u nS nP u) f1 _ rfl hI hp1
end
section
/-! SheetTrees: bound; needRun, partAt, cutSheetAt, left, all where they return -/
def bd_m (Sh : Nat → pa_T) : Nat → Int
  | 0 => 0
  | n + 1 => max (bd_m Sh n) ((Sh n).1 * (Sh n).2.1)
def bd_s (R : Nat → pa_T) : Nat → Int
  | 0 => 0
  | n + 1 => bd_s R n + (R n).1 * (R n).2.1 * (R n).2.2.2.1
def bd_r (Sh R : Nat → pa_T) (nS nP : Nat) : Int := if bd_m Sh nS < 1 then 0 else (bd_s R nP + bd_m Sh nS - 1).tdiv (bd_m Sh nS)
theorem bd_m_bd {Sh : Nat → pa_T} : ∀ n : Nat, (∀ i : Nat, i < n → SO (Sh i)) → 0 ≤ bd_m Sh n ∧ bd_m Sh n ≤ 256
  | 0, _ => by unfold bd_m; omega
  | n + 1, h => by
    have ih := bd_m_bd n (fun i hi => h i (by omega))
    have h1 := h n (by omega)
    unfold SO at h1
    have h2 := area_le (w := (Sh n).1) (h := (Sh n).2.1) (by omega) (by omega) (by omega) (by omega)
    unfold bd_m
    omega
theorem bd_s_bd {R : Nat → pa_T} : ∀ n : Nat, (∀ p : Nat, p < n → PO (R p)) → 0 ≤ bd_s R n ∧ bd_s R n ≤ 12800 * n
  | 0, _ => by unfold bd_s; omega
  | n + 1, h => by
    have ih := bd_s_bd n (fun i hi => h i (by omega))
    have h1 := h n (by omega)
    have h2 := PO_ar h1
    have h3 := h1.2.2.1
    have e1 := Int.mul_nonneg h2.1 h3.1
    have e2 := Int.mul_le_mul h2.2 h3.2 h3.1 (by omega)
    unfold bd_s
    omega
set_option maxHeartbeats 4000000 in
set_option maxRecDepth 100000 in
theorem c_ST_bound (l : Launch) (D : va_G) (x qsh qpa qcu qtk qrs qt ql nS nP : Nat) (S le nC nT nR rn : Int) (cS cP : ClassId) (fS fP : Nat → Option Nat) (L : List Nat) (f : Nat → va_E) (aS aP aC : Nat → Nat) (Sh R : Nat → pa_T) (Cs : Nat → Nat → Int) (hnS : nS ≤ 4) (hnP : nP ≤ 8) (hfS : ∀ i : Nat, i < 4 → fS i = some (aS i)) (hfP : ∀ i : Nat, i < 8 → fP i = some (aP i)) (hPL : PL L f aS aP aC Sh R Cs) (hSO : ∀ i : Nat, i < nS → SO (Sh i)) (hPO : ∀ p : Nat, p < 8 → PO (R p)) : CP l y_ST_bound b_ST_bound 4 (some .int) rm_1 [.ref x] D [(cS, .object "SheetTrees$Sheet"), (cP, .object "SheetTrees$Part")] ([ob_ST x qsh qpa qcu qtk qrs qt ql S le (nS : Int) (nP : Int) nC nT nR rn, ar_Q qsh cS 4 fS, ar_Q qpa cP 8 fP] ++ va_pl L f) (fun v => v = some (.int (iI (bd_r Sh R nS nP)))) := by
  refine cp_of (by decide) (Nat.le_of_ble_eq_true rfl) ?_
  intro X sz hl hr hD hA
  subst hD
  have hbm := bd_m_bd nS hSO
  have hbs := bd_s_bd nP (fun p hp => hPO p (by omega))
  have loopP : ∀ m i : Nat, i + m = nP → ∀ z : Int, bd_s R i = z → ¬ bd_m Sh nS < 1 → VV X (b_ST_bound, 4, "SheetTrees", rm_1) (cr X sz (fun v => v = some (.int (iI (bd_r Sh R nS nP)))) rm_1) 0 0 [(cS, .object "SheetTrees$Sheet"), (cP, .object "SheetTrees$Part")] [ob_ST x qsh qpa qcu qtk qrs qt ql S le (nS : Int) (nP : Int) nC nT nR rn, ar_Q qsh cS 4 fS, ar_Q qpa cP 8 fP] (va_pl L f) [some (.ref x), some (.int (iI (bd_m Sh nS))), some (.int (iI z)), some (.int (iI (i : Int)))] [] 52 := by
    intro m
    induction m with
    | zero =>
      intro i hi z hz hm1
      have hi2 : i = nP := by omega
      subst hi2
      refine vv_iload_n d_ST_bound_52 rfl ?_
      refine vv_aload_n d_ST_bound_53 rfl ?_
      refine vv_get d_ST_bound_54 0 rfl fl_ST_38 rfl ?_
      refine vv_icmp_ge (tgt := 97) d_ST_bound_57 (by decide) ⟨by omega, by omega⟩ (fun c57 => ?_) (fun c57 => ?_)
      · skip
        refine vv_iload_n d_ST_bound_97 rfl ?_
        refine vv_iload_n d_ST_bound_98 rfl ?_
        refine vv_iadd d_ST_bound_99 ?_
        refine vv_iconst d_ST_bound_100 ?_
        refine vv_isub d_ST_bound_101 ?_
        refine vv_iload_n d_ST_bound_102 rfl ?_
        refine vv_idiv d_ST_bound_103 (by omega) ?_
        exact vp_iret hA hr d_ST_bound_104 (by decide) (by decide) (by unfold bd_r; rw [if_neg hm1, hz])
      · exfalso; omega
    | succ m ih =>
      intro i hi z hz hm1
      have hi8 : i < 8 := by omega
      obtain ⟨hin, hat⟩ := hPL.2.1 i hi8
      refine vv_iload_n d_ST_bound_52 rfl ?_
      refine vv_aload_n d_ST_bound_53 rfl ?_
      refine vv_get d_ST_bound_54 0 rfl fl_ST_38 rfl ?_
      refine vv_icmp_ge (tgt := 97) d_ST_bound_57 (by decide) ⟨by omega, by omega⟩ (fun c57 => ?_) (fun c57 => ?_)
      · exfalso; omega
      · skip
        refine vv_iload_n d_ST_bound_60 rfl ?_
        refine vv_aload_n d_ST_bound_61 rfl ?_
        refine vv_get d_ST_bound_62 0 rfl fl_ST_17 rfl ?_
        refine vv_alen d_ST_bound_65 2 1 rfl rfl (v := 8) rfl ?_
        refine vv_icmp_ge (tgt := 97) d_ST_bound_66 (by decide) ⟨by omega, by omega⟩ (fun c66 => ?_) (fun c66 => ?_)
        · exfalso; omega
        · skip
          refine vv_iload_n d_ST_bound_69 rfl ?_
          refine vv_aload_n d_ST_bound_70 rfl ?_
          refine vv_get d_ST_bound_71 0 rfl fl_ST_17 rfl ?_
          refine vv_iload_n d_ST_bound_74 rfl ?_
          refine vv_aald d_ST_bound_75 2 1 rfl rfl (by omega) (show fP ((i : Int).toNat) = some (aP i) by rw [Int.toNat_natCast]; exact hfP i hi8) ?_
          refine vv_pV (wc := []) (plc := va_pl L f) [.int (iI z)] (c_PA_area (cx_l X) (cx_D X) L f (aP i) (R i) hin hat) lk_ST_237 d_ST_bound_76 rfl (rc_pl hin hat rfl rfl) [] ⟨rfl, rfl, Or.inr rfl⟩ [] rfl ⟨⟨by decide, by decide⟩, ⟨by decide, by decide⟩, Nat.le_of_ble_eq_true rfl⟩ ⟨rfl, rfl⟩ ?_
          intro v hv
          subst hv
          dsimp only [Option.toList, List.cons_append, List.nil_append, List.append_nil]
          refine vv_aload_n d_ST_bound_79 rfl ?_
          refine vv_get d_ST_bound_80 0 rfl fl_ST_17 rfl ?_
          refine vv_iload_n d_ST_bound_83 rfl ?_
          refine vv_aald d_ST_bound_84 2 1 rfl rfl (by omega) (show fP ((i : Int).toNat) = some (aP i) by rw [Int.toNat_natCast]; exact hfP i hi8) ?_
          refine vv_getP d_ST_bound_85 hin hat fl_ST_130 rfl ?_
          refine vv_imul d_ST_bound_88 ?_
          refine vv_iadd d_ST_bound_89 ?_
          refine vv_istore_n d_ST_bound_90 rfl (by decide) ?_
          dsimp only [List.set]
          refine vv_iinc d_ST_bound_91 rfl rfl (by decide) ?_
          dsimp only [List.set]
          refine vv_goto (tgt := 52) d_ST_bound_94 (by decide) ?_
          exact ih (i + 1) (by omega) _ (by rw [← hz]; rfl) hm1
  have loopS : ∀ m i : Nat, i + m = nS → ∀ z : Int, bd_m Sh i = z → VV X (b_ST_bound, 4, "SheetTrees", rm_1) (cr X sz (fun v => v = some (.int (iI (bd_r Sh R nS nP)))) rm_1) 0 0 [(cS, .object "SheetTrees$Sheet"), (cP, .object "SheetTrees$Part")] [ob_ST x qsh qpa qcu qtk qrs qt ql S le (nS : Int) (nP : Int) nC nT nR rn, ar_Q qsh cS 4 fS, ar_Q qpa cP 8 fP] (va_pl L f) [some (.ref x), some (.int (iI z)), some (.int (iI (i : Int))), none] [] 4 := by
    intro m
    induction m with
    | zero =>
      intro i hi z hz
      have hi2 : i = nS := by omega
      subst hi2
      subst hz
      refine vv_iload_n d_ST_bound_4 rfl ?_
      refine vv_aload_n d_ST_bound_5 rfl ?_
      refine vv_get d_ST_bound_6 0 rfl fl_ST_34 rfl ?_
      refine vv_icmp_ge (tgt := 41) d_ST_bound_9 (by decide) ⟨by omega, by omega⟩ (fun c9 => ?_) (fun c9 => ?_)
      · skip
        refine vv_iload_n d_ST_bound_41 rfl ?_
        refine vv_iconst d_ST_bound_42 ?_
        refine vv_icmp_ge (tgt := 48) d_ST_bound_43 (by decide) ⟨by omega, by omega⟩ (fun c43 => ?_) (fun c43 => ?_)
        · skip
          refine vv_iconst d_ST_bound_48 ?_
          refine vv_istore_n d_ST_bound_49 rfl (by decide) ?_
          dsimp only [List.set]
          refine vv_iconst d_ST_bound_50 ?_
          refine vv_istore_n d_ST_bound_51 rfl (by decide) ?_
          dsimp only [List.set]
          exact loopP nP 0 (by omega) 0 rfl (by omega)
        · skip
          refine vv_iconst d_ST_bound_46 ?_
          exact vp_iret hA hr d_ST_bound_47 (by decide) (by decide) (by unfold bd_r; rw [if_pos (by omega)])
      · exfalso; omega
    | succ m ih =>
      intro i hi z hz
      have hi4 : i < 4 := by omega
      obtain ⟨hin, hat⟩ := hPL.1 i hi4
      have hz2 := bd_m_bd i (fun j hj => hSO j (by omega))
      rw [hz] at hz2
      have hz3 := bd_m_bd (i + 1) (fun j hj => hSO j (by omega))
      have hso := hSO i (by omega)
      unfold SO at hso
      have har := area_le (w := (Sh i).1) (h := (Sh i).2.1) (by omega) (by omega) (by omega) (by omega)
      refine vv_iload_n d_ST_bound_4 rfl ?_
      refine vv_aload_n d_ST_bound_5 rfl ?_
      refine vv_get d_ST_bound_6 0 rfl fl_ST_34 rfl ?_
      refine vv_icmp_ge (tgt := 41) d_ST_bound_9 (by decide) ⟨by omega, by omega⟩ (fun c9 => ?_) (fun c9 => ?_)
      · exfalso; omega
      · skip
        refine vv_iload_n d_ST_bound_12 rfl ?_
        refine vv_aload_n d_ST_bound_13 rfl ?_
        refine vv_get d_ST_bound_14 0 rfl fl_ST_11 rfl ?_
        refine vv_alen d_ST_bound_17 1 0 rfl rfl (v := 4) rfl ?_
        refine vv_icmp_ge (tgt := 41) d_ST_bound_18 (by decide) ⟨by omega, by omega⟩ (fun c18 => ?_) (fun c18 => ?_)
        · exfalso; omega
        · skip
          refine vv_iload_n d_ST_bound_21 rfl ?_
          refine vv_aload_n d_ST_bound_22 rfl ?_
          refine vv_get d_ST_bound_23 0 rfl fl_ST_11 rfl ?_
          refine vv_iload_n d_ST_bound_26 rfl ?_
          refine vv_aald d_ST_bound_27 1 0 rfl rfl (by omega) (show fS ((i : Int).toNat) = some (aS i) by rw [Int.toNat_natCast]; exact hfS i hi4) ?_
          refine vv_pV (wc := []) (plc := va_pl L f) [.int (iI z)] (c_SH_area (cx_l X) (cx_D X) L f (aS i) (Sh i) hin hat) lk_ST_230 d_ST_bound_28 rfl (rc_pl hin hat rfl rfl) [] ⟨rfl, rfl, Or.inr rfl⟩ [] rfl ⟨⟨by decide, by decide⟩, ⟨by decide, by decide⟩, Nat.le_of_ble_eq_true rfl⟩ ⟨rfl, rfl⟩ ?_
          intro v hv
          subst hv
          dsimp only [Option.toList, List.cons_append, List.nil_append, List.append_nil]
          refine vv_mmax d_ST_bound_31 lm_ST_232 ⟨by omega, by omega⟩ ⟨by decide, Nat.le_of_ble_eq_true rfl, by decide, by decide⟩ ?_
          refine vv_istore_n d_ST_bound_34 rfl (by decide) ?_
          dsimp only [List.set]
          refine vv_iinc d_ST_bound_35 rfl rfl (by decide) ?_
          dsimp only [List.set]
          refine vv_goto (tgt := 4) d_ST_bound_38 (by decide) ?_
          exact ih (i + 1) (by omega) _ (by rw [← hz]; rfl)
  show VV X (b_ST_bound, 4, "SheetTrees", rm_1) _ 0 0 [(cS, .object "SheetTrees$Sheet"), (cP, .object "SheetTrees$Part")] [ob_ST x qsh qpa qcu qtk qrs qt ql S le (nS : Int) (nP : Int) nC nT nR rn, ar_Q qsh cS 4 fS, ar_Q qpa cP 8 fP] (va_pl L f) [some (.ref x), none, none, none] [] 0
  refine vv_iconst d_ST_bound_0 ?_
  refine vv_istore_n d_ST_bound_1 rfl (by decide) ?_
  dsimp only [List.set]
  refine vv_iconst d_ST_bound_2 ?_
  refine vv_istore_n d_ST_bound_3 rfl (by decide) ?_
  dsimp only [List.set]
  exact loopS nS 0 (by omega) 0 rfl
set_option maxHeartbeats 4000000 in
set_option maxRecDepth 100000 in
theorem c_ST_needRun_y (l : Launch) (D : va_G) (x qsh qpa qcu qtk qrs qt ql : Nat) (S le nS nP nC nT nR : Int) : CP l y_ST_needRun b_ST_needRun 1 none rm_1 [.ref x] D [] ([ob_ST x qsh qpa qcu qtk qrs qt ql S le nS nP nC nT nR 1] ++ []) (fun v => v = none) := by
  refine cp_of (by decide) (Nat.le_of_ble_eq_true rfl) ?_
  intro X sz hl hr hD hA
  subst hD
  show VV X (b_ST_needRun, 1, "SheetTrees", rm_1) _ 0 0 [] [ob_ST x qsh qpa qcu qtk qrs qt ql S le nS nP nC nT nR 1] [] [some (.ref x)] [] 0
  refine vv_aload_n d_ST_needRun_0 rfl ?_
  refine vv_get d_ST_needRun_1 0 rfl fl_ST_50 rfl ?_
  refine vv_if_ne (tgt := 17) d_ST_needRun_4 (by decide) (by omega) (fun c4 => ?_) (fun c4 => ?_)
  · skip
    exact vp_vret hA hr d_ST_needRun_17 (by decide) (by decide) (by rfl)
  · exfalso; omega
set_option maxHeartbeats 4000000 in
set_option maxRecDepth 100000 in
theorem c_ST_partAt_y (l : Launch) (D : va_G) (x qsh qpa qcu qtk qrs qt ql nP k : Nat) (S le nS nC nT nR rn : Int) (cP : ClassId) (fP : Nat → Option Nat) (aP : Nat → Nat) (hnP : nP ≤ 8) (hk : k < nP) (hfP : ∀ i : Nat, i < 8 → fP i = some (aP i)) : CP l y_ST_partAt b_ST_partAt 2 (some (.object "SheetTrees$Part")) rm_1 [.ref x, .int (iI (k : Int))] D [(cP, .object "SheetTrees$Part")] ([ob_ST x qsh qpa qcu qtk qrs qt ql S le nS (nP : Int) nC nT nR rn, ar_Q qpa cP 8 fP] ++ []) (fun v => v = some (.ref (aP k))) := by
  refine cp_of (by decide) (Nat.le_of_ble_eq_true rfl) ?_
  intro X sz hl hr hD hA
  subst hD
  have hk8 : k < 8 := by omega
  show VV X (b_ST_partAt, 2, "SheetTrees", rm_1) _ 0 0 [(cP, .object "SheetTrees$Part")] [ob_ST x qsh qpa qcu qtk qrs qt ql S le nS (nP : Int) nC nT nR rn, ar_Q qpa cP 8 fP] [] [some (.ref x), some (.int (iI (k : Int)))] [] 0
  refine vv_iload_n d_ST_partAt_0 rfl ?_
  refine vv_if_lt (tgt := 21) d_ST_partAt_1 (by decide) (by omega) (fun c1 => ?_) (fun c1 => ?_)
  · exfalso; omega
  · skip
    refine vv_iload_n d_ST_partAt_4 rfl ?_
    refine vv_aload_n d_ST_partAt_5 rfl ?_
    refine vv_get d_ST_partAt_6 0 rfl fl_ST_38 rfl ?_
    refine vv_icmp_ge (tgt := 21) d_ST_partAt_9 (by decide) ⟨by omega, by omega⟩ (fun c9 => ?_) (fun c9 => ?_)
    · exfalso; omega
    · skip
      refine vv_iload_n d_ST_partAt_12 rfl ?_
      refine vv_aload_n d_ST_partAt_13 rfl ?_
      refine vv_get d_ST_partAt_14 0 rfl fl_ST_17 rfl ?_
      refine vv_alen d_ST_partAt_17 1 0 rfl rfl (v := 8) rfl ?_
      refine vv_icmp_lt (tgt := 31) d_ST_partAt_18 (by decide) ⟨by omega, by omega⟩ (fun c18 => ?_) (fun c18 => ?_)
      · skip
        refine vv_aload_n d_ST_partAt_31 rfl ?_
        refine vv_get d_ST_partAt_32 0 rfl fl_ST_17 rfl ?_
        refine vv_iload_n d_ST_partAt_35 rfl ?_
        refine vv_aald d_ST_partAt_36 1 0 rfl rfl (by omega) (show fP ((k : Int).toNat) = some (aP k) by rw [Int.toNat_natCast]; exact hfP k hk8) ?_
        exact vp_aret hA hr (Or.inl ⟨_, rfl⟩) d_ST_partAt_37 (by decide) (by decide) (by rfl)
      · exfalso; omega
set_option maxHeartbeats 4000000 in
set_option maxRecDepth 100000 in
theorem c_ST_cutSheetAt_y (l : Launch) (D : va_G) (x qsh qpa qcu qtk qrs qt ql nC k : Nat) (S le nS nP nT nR : Int) (cC : ClassId) (fC : Nat → Option Nat) (aC : Nat → Nat) (hnC : nC ≤ 20) (hk : k < nC) (hfC : ∀ i : Nat, i < 20 → fC i = some (aC i)) : CP l y_ST_cutSheetAt b_ST_cutSheetAt 2 (some (.object "SheetTrees$CutSheet")) rm_2 [.ref x, .int (iI (k : Int))] D [(cC, .object "SheetTrees$CutSheet")] ([ob_ST x qsh qpa qcu qtk qrs qt ql S le nS nP (nC : Int) nT nR 1, ar_Q qcu cC 20 fC] ++ []) (fun v => v = some (.ref (aC k))) := by
  refine cp_of (by decide) (Nat.le_of_ble_eq_true rfl) ?_
  intro X sz hl hr hD hA
  subst hD
  have hk8 : k < 20 := by omega
  show VV X (b_ST_cutSheetAt, 2, "SheetTrees", rm_2) _ 0 0 [(cC, .object "SheetTrees$CutSheet")] [ob_ST x qsh qpa qcu qtk qrs qt ql S le nS nP (nC : Int) nT nR 1, ar_Q qcu cC 20 fC] [] [some (.ref x), some (.int (iI (k : Int)))] [] 0
  refine vv_aload_n d_ST_cutSheetAt_0 rfl ?_
  refine vv_pV (wc := [ob_ST x qsh qpa qcu qtk qrs qt ql S le nS nP (nC : Int) nT nR 1]) (plc := []) [] (c_ST_needRun_y (cx_l X) (cx_D X) x qsh qpa qcu qtk qrs qt ql S le _ _ _ _ _) lk_ST_218 d_ST_cutSheetAt_1 rfl (rc_at 0 rfl rfl rfl) [0] ⟨rfl, rfl, Or.inl rfl⟩ [] rfl ⟨⟨by decide, by decide⟩, ⟨by decide, by decide⟩, Nat.le_of_ble_eq_true rfl⟩ ⟨rfl, rfl⟩ ?_
  intro v hv
  subst hv
  dsimp only [Option.toList, List.cons_append, List.nil_append, List.append_nil]
  refine vv_iload_n d_ST_cutSheetAt_4 rfl ?_
  refine vv_if_lt (tgt := 25) d_ST_cutSheetAt_5 (by decide) (by omega) (fun c5 => ?_) (fun c5 => ?_)
  · exfalso; omega
  · skip
    refine vv_iload_n d_ST_cutSheetAt_8 rfl ?_
    refine vv_aload_n d_ST_cutSheetAt_9 rfl ?_
    refine vv_get d_ST_cutSheetAt_10 0 rfl fl_ST_41 rfl ?_
    refine vv_icmp_ge (tgt := 25) d_ST_cutSheetAt_13 (by decide) ⟨by omega, by omega⟩ (fun c13 => ?_) (fun c13 => ?_)
    · exfalso; omega
    · skip
      refine vv_iload_n d_ST_cutSheetAt_16 rfl ?_
      refine vv_aload_n d_ST_cutSheetAt_17 rfl ?_
      refine vv_get d_ST_cutSheetAt_18 0 rfl fl_ST_23 rfl ?_
      refine vv_alen d_ST_cutSheetAt_21 1 0 rfl rfl (v := 20) rfl ?_
      refine vv_icmp_lt (tgt := 35) d_ST_cutSheetAt_22 (by decide) ⟨by omega, by omega⟩ (fun c22 => ?_) (fun c22 => ?_)
      · skip
        refine vv_aload_n d_ST_cutSheetAt_35 rfl ?_
        refine vv_get d_ST_cutSheetAt_36 0 rfl fl_ST_23 rfl ?_
        refine vv_iload_n d_ST_cutSheetAt_39 rfl ?_
        refine vv_aald d_ST_cutSheetAt_40 1 0 rfl rfl (by omega) (show fC ((k : Int).toNat) = some (aC k) by rw [Int.toNat_natCast]; exact hfC k hk8) ?_
        exact vp_aret hA hr (Or.inl ⟨_, rfl⟩) d_ST_cutSheetAt_41 (by decide) (by decide) (by rfl)
      · exfalso; omega
set_option maxHeartbeats 4000000 in
set_option maxRecDepth 100000 in
theorem c_ST_left_y (l : Launch) (D : va_G) (x qsh qpa qcu qtk qrs qt ql nP k : Nat) (S le nS nC nT nR : Int) (cP : ClassId) (fP : Nat → Option Nat) (L : List Nat) (f : Nat → va_E) (aP : Nat → Nat) (R : Nat → pa_T) (hnP : nP ≤ 8) (hk : k < nP) (hfP : ∀ i : Nat, i < 8 → fP i = some (aP i)) (hPP : PP L f aP R) : CP l y_ST_left b_ST_left 2 (some .int) rm_2 [.ref x, .int (iI (k : Int))] D [(cP, .object "SheetTrees$Part")] ([ob_ST x qsh qpa qcu qtk qrs qt ql S le nS (nP : Int) nC nT nR 1, ar_Q qpa cP 8 fP] ++ va_pl L f) (fun v => v = some (.int (iI (R k).2.2.2.2))) := by
  refine cp_of (by decide) (Nat.le_of_ble_eq_true rfl) ?_
  intro X sz hl hr hD hA
  subst hD
  obtain ⟨hin, hat⟩ := hPP k (by omega)
  show VV X (b_ST_left, 2, "SheetTrees", rm_2) _ 0 0 [(cP, .object "SheetTrees$Part")] [ob_ST x qsh qpa qcu qtk qrs qt ql S le nS (nP : Int) nC nT nR 1, ar_Q qpa cP 8 fP] (va_pl L f) [some (.ref x), some (.int (iI (k : Int)))] [] 0
  refine vv_aload_n d_ST_left_0 rfl ?_
  refine vv_pV (wc := [ob_ST x qsh qpa qcu qtk qrs qt ql S le nS (nP : Int) nC nT nR 1]) (plc := []) [] (c_ST_needRun_y (cx_l X) (cx_D X) x qsh qpa qcu qtk qrs qt ql S le _ _ _ _ _) lk_ST_218 d_ST_left_1 rfl (rc_at 0 rfl rfl rfl) [0] ⟨rfl, rfl, Or.inl rfl⟩ [] rfl ⟨⟨by decide, by decide⟩, ⟨by decide, by decide⟩, Nat.le_of_ble_eq_true rfl⟩ ⟨rfl, rfl⟩ ?_
  intro v hv
  subst hv
  dsimp only [Option.toList, List.cons_append, List.nil_append, List.append_nil]
  refine vv_aload_n d_ST_left_4 rfl ?_
  refine vv_iload_n d_ST_left_5 rfl ?_
  refine vv_pV (wc := [ob_ST x qsh qpa qcu qtk qrs qt ql S le nS (nP : Int) nC nT nR 1, ar_Q qpa cP 8 fP]) (plc := []) [] (c_ST_partAt_y (cx_l X) (cx_D X) x qsh qpa qcu qtk qrs qt ql nP k S le nS nC nT nR 1 cP fP aP hnP hk hfP) lk_ST_133 d_ST_left_6 rfl (rc_at 0 rfl rfl rfl) [0, 1] ⟨rfl, rfl, Or.inl rfl⟩ [0] rfl ⟨⟨by decide, by decide⟩, ⟨by decide, by decide⟩, Nat.le_of_ble_eq_true rfl⟩ ⟨rfl, rfl⟩ ?_
  intro v hv
  subst hv
  dsimp only [Option.toList, List.cons_append, List.nil_append, List.append_nil]
  refine vv_getP d_ST_left_9 hin hat fl_ST_221 rfl ?_
  exact vp_iret hA hr d_ST_left_12 (by decide) (by decide) (by rfl)
def al_g (w : Int) (c : Nat → Int) : Int := if w = 0 then c 1 else if w = 1 then c 2 else c 9
def al_s (w : Int) (Cs : Nat → Nat → Int) : Nat → Int64
  | 0 => 0
  | n + 1 => al_s w Cs n + (iI (al_g w (Cs n))).toInt64
set_option maxHeartbeats 4000000 in
set_option maxRecDepth 100000 in
theorem c_ST_all_y (l : Launch) (D : va_G) (x qsh qpa qcu qtk qrs qt ql nC : Nat) (S le nS nP nT nR w : Int) (cC : ClassId) (fC : Nat → Option Nat) (L : List Nat) (f : Nat → va_E) (aC : Nat → Nat) (Cs : Nat → Nat → Int) (hnC : nC ≤ 20) (hw : 0 ≤ w ∧ w ≤ 2) (hfC : ∀ i : Nat, i < 20 → fC i = some (aC i)) (hCC : CC L f aC Cs) : CP l y_ST_all b_ST_all 6 (some .long) rm_2 [.ref x, .int (iI w)] D [(cC, .object "SheetTrees$CutSheet")] ([ob_ST x qsh qpa qcu qtk qrs qt ql S le nS nP (nC : Int) nT nR 1, ar_Q qcu cC 20 fC] ++ va_pl L f) (fun v => v = some (.long (al_s w Cs nC))) := by
  refine cp_of (by decide) (Nat.le_of_ble_eq_true rfl) ?_
  intro X sz hl hr hD hA
  subst hD
  have hiw : isW w 0 2 = 1 := by unfold isW; rw [if_pos hw]
  have loop : ∀ m i : Nat, i + m = nC → ∀ (z : Int64) (v5 : Option Value), al_s w Cs i = z → VV X (b_ST_all, 6, "SheetTrees", rm_2) (cr X sz (fun v => v = some (.long (al_s w Cs nC))) rm_2) 0 0 [(cC, .object "SheetTrees$CutSheet")] [ob_ST x qsh qpa qcu qtk qrs qt ql S le nS nP (nC : Int) nT nR 1, ar_Q qcu cC 20 fC] (va_pl L f) [some (.ref x), some (.int (iI w)), some (.long z), none, some (.int (iI (i : Int))), v5] [] 28 := by
    intro m
    induction m with
    | zero =>
      intro i hi z v5 hz
      have hi2 : i = nC := by omega
      subst hi2
      subst hz
      refine vv_iload d_ST_all_28 rfl ?_
      refine vv_aload_n d_ST_all_30 rfl ?_
      refine vv_get d_ST_all_31 0 rfl fl_ST_41 rfl ?_
      refine vv_icmp_ge (tgt := 98) d_ST_all_34 (by decide) ⟨by omega, by omega⟩ (fun c34 => ?_) (fun c34 => ?_)
      · skip
        refine vv_lload_n d_ST_all_98 rfl ?_
        exact vp_lret hA hr d_ST_all_99 (by decide) (by decide) (by rfl)
      · exfalso; omega
    | succ m ih =>
      intro i hi z v5 hz
      have hi20 : i < 20 := by omega
      obtain ⟨hin, hat⟩ := hCC i hi20
      have h9 := ih (i + 1) (by omega)
      have hs : al_s w Cs (i + 1) = z + (iI (al_g w (Cs i))).toInt64 := by rw [← hz]; rfl
      refine vv_iload d_ST_all_28 rfl ?_
      refine vv_aload_n d_ST_all_30 rfl ?_
      refine vv_get d_ST_all_31 0 rfl fl_ST_41 rfl ?_
      refine vv_icmp_ge (tgt := 98) d_ST_all_34 (by decide) ⟨by omega, by omega⟩ (fun c34 => ?_) (fun c34 => ?_)
      · exfalso; omega
      · skip
        refine vv_iload d_ST_all_37 rfl ?_
        refine vv_aload_n d_ST_all_39 rfl ?_
        refine vv_get d_ST_all_40 0 rfl fl_ST_23 rfl ?_
        refine vv_alen d_ST_all_43 1 0 rfl rfl (v := 20) rfl ?_
        refine vv_icmp_ge (tgt := 98) d_ST_all_44 (by decide) ⟨by omega, by omega⟩ (fun c44 => ?_) (fun c44 => ?_)
        · exfalso; omega
        · skip
          refine vv_aload_n d_ST_all_47 rfl ?_
          refine vv_get d_ST_all_48 0 rfl fl_ST_23 rfl ?_
          refine vv_iload d_ST_all_51 rfl ?_
          refine vv_aald d_ST_all_53 1 0 rfl rfl (by omega) (show fC ((i : Int).toNat) = some (aC i) by rw [Int.toNat_natCast]; exact hfC i hi20) ?_
          refine vv_astore d_ST_all_54 rfl (by decide) ?_
          dsimp only [List.set]
          refine vv_lload_n d_ST_all_56 rfl ?_
          refine vv_iload_n d_ST_all_57 rfl ?_
          refine vv_if_ne (tgt := 70) d_ST_all_58 (by decide) (by omega) (fun c58 => ?_) (fun c58 => ?_)
          · skip
            refine vv_iload_n d_ST_all_70 rfl ?_
            refine vv_iconst d_ST_all_71 ?_
            refine vv_icmp_ne (tgt := 84) d_ST_all_72 (by decide) ⟨by omega, by omega⟩ (fun c72 => ?_) (fun c72 => ?_)
            · skip
              refine vv_aload d_ST_all_84 rfl ?_
              refine vv_getP d_ST_all_86 hin hat fl_ST_173 rfl ?_
              refine vv_i2l d_ST_all_89 rfl ?_
              rw [show al_g w (Cs i) = _ from (by unfold al_g; rw [if_neg c58, if_neg c72])] at hs
              refine vv_ladd d_ST_all_90 rfl ?_
              refine vv_lstore_n d_ST_all_91 rfl (by decide) ?_
              dsimp only [List.set]
              refine vv_iinc d_ST_all_92 rfl rfl (by decide) ?_
              dsimp only [List.set]
              refine vv_goto (tgt := 28) d_ST_all_95 (by decide) ?_
              exact h9 _ _ hs
            · skip
              refine vv_aload d_ST_all_75 rfl ?_
              refine vv_getP d_ST_all_77 hin hat fl_ST_227 rfl ?_
              refine vv_i2l d_ST_all_80 rfl ?_
              refine vv_goto (tgt := 90) d_ST_all_81 (by decide) ?_
              rw [show al_g w (Cs i) = _ from (by unfold al_g; rw [if_neg c58, if_pos c72])] at hs
              refine vv_ladd d_ST_all_90 rfl ?_
              refine vv_lstore_n d_ST_all_91 rfl (by decide) ?_
              dsimp only [List.set]
              refine vv_iinc d_ST_all_92 rfl rfl (by decide) ?_
              dsimp only [List.set]
              refine vv_goto (tgt := 28) d_ST_all_95 (by decide) ?_
              exact h9 _ _ hs
          · skip
            refine vv_aload d_ST_all_61 rfl ?_
            refine vv_getP d_ST_all_63 hin hat fl_ST_226 rfl ?_
            refine vv_i2l d_ST_all_66 rfl ?_
            refine vv_goto (tgt := 90) d_ST_all_67 (by decide) ?_
            rw [show al_g w (Cs i) = _ from (by unfold al_g; rw [if_pos c58])] at hs
            refine vv_ladd d_ST_all_90 rfl ?_
            refine vv_lstore_n d_ST_all_91 rfl (by decide) ?_
            dsimp only [List.set]
            refine vv_iinc d_ST_all_92 rfl rfl (by decide) ?_
            dsimp only [List.set]
            refine vv_goto (tgt := 28) d_ST_all_95 (by decide) ?_
            exact h9 _ _ hs
  show VV X (b_ST_all, 6, "SheetTrees", rm_2) _ 0 0 [(cC, .object "SheetTrees$CutSheet")] [ob_ST x qsh qpa qcu qtk qrs qt ql S le nS nP (nC : Int) nT nR 1, ar_Q qcu cC 20 fC] (va_pl L f) [some (.ref x), some (.int (iI w)), none, none, none, none] [] 0
  refine vv_aload_n d_ST_all_0 rfl ?_
  refine vv_pV (wc := [ob_ST x qsh qpa qcu qtk qrs qt ql S le nS nP (nC : Int) nT nR 1]) (plc := []) [] (c_ST_needRun_y (cx_l X) (cx_D X) x qsh qpa qcu qtk qrs qt ql S le _ _ _ _ _) lk_ST_218 d_ST_all_1 rfl (rc_at 0 rfl rfl rfl) [0] ⟨rfl, rfl, Or.inl rfl⟩ [] rfl ⟨⟨by decide, by decide⟩, ⟨by decide, by decide⟩, Nat.le_of_ble_eq_true rfl⟩ ⟨rfl, rfl⟩ ?_
  intro v hv
  subst hv
  dsimp only [Option.toList, List.cons_append, List.nil_append, List.append_nil]
  refine vv_iload_n d_ST_all_4 rfl ?_
  refine vv_iconst d_ST_all_5 ?_
  refine vv_iconst d_ST_all_6 ?_
  refine vv_pS (wc := []) (plc := []) [] (c_ST_isWithin (cx_l X) (cx_D X) w 0 2 (by omega) (by omega) (by omega)) lk_ST_96 d_ST_all_7 rfl [] ⟨rfl, rfl, Or.inl rfl⟩ [] rfl ⟨⟨by decide, by decide⟩, ⟨by decide, by decide⟩, Nat.le_of_ble_eq_true rfl⟩ ⟨rfl, rfl⟩ ?_
  intro v hv
  subst hv
  dsimp only [Option.toList, List.cons_append, List.nil_append, List.append_nil]
  rw [hiw]
  refine vv_if_ne (tgt := 23) d_ST_all_10 (by decide) (by omega) (fun c10 => ?_) (fun c10 => ?_)
  · skip
    refine vv_lconst d_ST_all_23 rfl ?_
    refine vv_lstore_n d_ST_all_24 rfl (by decide) ?_
    dsimp only [List.set]
    refine vv_iconst d_ST_all_25 ?_
    refine vv_istore d_ST_all_26 rfl (by decide) ?_
    dsimp only [List.set]
    exact loop nC 0 (by omega) 0 _ rfl
  · exfalso; omega
end
