section
-- ===== PART A: goes FIRST, ahead of the names: the tables' words, and 'selects' of the private methods out of them =====
/-- a private method of a class that the tables say can be made, by its rows of tables_1 -/
def lw_okq (q : MethodName × Nat) : Prop := (q.1.cls ≠ "java/lang/invoke/MethodHandle" ∧ q.1.cls ≠ "java/lang/invoke/VarHandle") ∧ Cond.instantiable q.1.cls q.2 ∈ tables_1 ∧ Cond.privateMethod q.1 ∈ tables_1 ∧ Cond.instanceMethod q.1 ∈ tables_1
theorem lw_p0 : lw_okq (⟨"SheetTrees", "startRun", "()V"⟩, 15) := ⟨⟨by decide +kernel, by decide +kernel⟩, List.mem_of_getElem? (i := 18) (by decide +kernel), List.mem_of_getElem? (i := 266) (by decide +kernel), List.mem_of_getElem? (i := 267) (by decide +kernel)⟩
theorem lw_p1 : lw_okq (⟨"SheetTrees", "partsStillWanted", "()I"⟩, 15) := ⟨⟨by decide +kernel, by decide +kernel⟩, List.mem_of_getElem? (i := 18) (by decide +kernel), List.mem_of_getElem? (i := 270) (by decide +kernel), List.mem_of_getElem? (i := 271) (by decide +kernel)⟩
theorem lw_p2 : lw_okq (⟨"SheetTrees$Tables", "fill", "([LSheetTrees$Part;II)V"⟩, 5) := ⟨⟨by decide +kernel, by decide +kernel⟩, List.mem_of_getElem? (i := 41) (by decide +kernel), List.mem_of_getElem? (i := 274) (by decide +kernel), List.mem_of_getElem? (i := 275) (by decide +kernel)⟩
theorem lw_p3 : lw_okq (⟨"SheetTrees$Tables", "fillWithoutCuts", "([LSheetTrees$Part;)V"⟩, 5) := ⟨⟨by decide +kernel, by decide +kernel⟩, List.mem_of_getElem? (i := 41) (by decide +kernel), List.mem_of_getElem? (i := 278) (by decide +kernel), List.mem_of_getElem? (i := 279) (by decide +kernel)⟩
theorem lw_p4 : lw_okq (⟨"SheetTrees$Tables", "putPart", "(III)V"⟩, 5) := ⟨⟨by decide +kernel, by decide +kernel⟩, List.mem_of_getElem? (i := 41) (by decide +kernel), List.mem_of_getElem? (i := 285) (by decide +kernel), List.mem_of_getElem? (i := 286) (by decide +kernel)⟩
theorem lw_p5 : lw_okq (⟨"SheetTrees$Tables", "put", "(III)V"⟩, 5) := ⟨⟨by decide +kernel, by decide +kernel⟩, List.mem_of_getElem? (i := 41) (by decide +kernel), List.mem_of_getElem? (i := 292) (by decide +kernel), List.mem_of_getElem? (i := 293) (by decide +kernel)⟩
theorem lw_p6 : lw_okq (⟨"SheetTrees$Tables", "fillStage", "(I)V"⟩, 5) := ⟨⟨by decide +kernel, by decide +kernel⟩, List.mem_of_getElem? (i := 41) (by decide +kernel), List.mem_of_getElem? (i := 296) (by decide +kernel), List.mem_of_getElem? (i := 297) (by decide +kernel)⟩
theorem lw_p7 : lw_okq (⟨"SheetTrees$Tables", "choose", "(IIII)V"⟩, 5) := ⟨⟨by decide +kernel, by decide +kernel⟩, List.mem_of_getElem? (i := 41) (by decide +kernel), List.mem_of_getElem? (i := 300) (by decide +kernel), List.mem_of_getElem? (i := 301) (by decide +kernel)⟩
theorem lw_p8 : lw_okq (⟨"SheetTrees$Tables", "scoreAt", "(I)I"⟩, 5) := ⟨⟨by decide +kernel, by decide +kernel⟩, List.mem_of_getElem? (i := 41) (by decide +kernel), List.mem_of_getElem? (i := 304) (by decide +kernel), List.mem_of_getElem? (i := 305) (by decide +kernel)⟩
theorem lw_p9 : lw_okq (⟨"SheetTrees$Tables", "choiceAt", "(I)I"⟩, 5) := ⟨⟨by decide +kernel, by decide +kernel⟩, List.mem_of_getElem? (i := 41) (by decide +kernel), List.mem_of_getElem? (i := 308) (by decide +kernel), List.mem_of_getElem? (i := 309) (by decide +kernel)⟩
theorem lw_p10 : lw_okq (⟨"SheetTrees", "bestSheet", "()I"⟩, 15) := ⟨⟨by decide +kernel, by decide +kernel⟩, List.mem_of_getElem? (i := 18) (by decide +kernel), List.mem_of_getElem? (i := 313) (by decide +kernel), List.mem_of_getElem? (i := 314) (by decide +kernel)⟩
theorem lw_p11 : lw_okq (⟨"SheetTrees$Layout", "lay", "(LSheetTrees$Sheet;I)V"⟩, 7) := ⟨⟨by decide +kernel, by decide +kernel⟩, List.mem_of_getElem? (i := 66) (by decide +kernel), List.mem_of_getElem? (i := 317) (by decide +kernel), List.mem_of_getElem? (i := 318) (by decide +kernel)⟩
theorem lw_p12 : lw_okq (⟨"SheetTrees$Tables", "scoreOf", "(IIII)I"⟩, 5) := ⟨⟨by decide +kernel, by decide +kernel⟩, List.mem_of_getElem? (i := 41) (by decide +kernel), List.mem_of_getElem? (i := 322) (by decide +kernel), List.mem_of_getElem? (i := 323) (by decide +kernel)⟩
theorem lw_p13 : lw_okq (⟨"SheetTrees$Layout", "layTree", "(IIIIII)V"⟩, 7) := ⟨⟨by decide +kernel, by decide +kernel⟩, List.mem_of_getElem? (i := 66) (by decide +kernel), List.mem_of_getElem? (i := 326) (by decide +kernel), List.mem_of_getElem? (i := 327) (by decide +kernel)⟩
theorem lw_p14 : lw_okq (⟨"SheetTrees$Tables", "choiceOf", "(IIII)I"⟩, 5) := ⟨⟨by decide +kernel, by decide +kernel⟩, List.mem_of_getElem? (i := 41) (by decide +kernel), List.mem_of_getElem? (i := 330) (by decide +kernel), List.mem_of_getElem? (i := 331) (by decide +kernel)⟩
theorem lw_p15 : lw_okq (⟨"SheetTrees$Layout", "addPiece", "(II)V"⟩, 7) := ⟨⟨by decide +kernel, by decide +kernel⟩, List.mem_of_getElem? (i := 66) (by decide +kernel), List.mem_of_getElem? (i := 337) (by decide +kernel), List.mem_of_getElem? (i := 338) (by decide +kernel)⟩
def lw_privs_1 : List (MethodName × Nat) := [(⟨"SheetTrees", "startRun", "()V"⟩, 15), (⟨"SheetTrees", "partsStillWanted", "()I"⟩, 15), (⟨"SheetTrees$Tables", "fill", "([LSheetTrees$Part;II)V"⟩, 5), (⟨"SheetTrees$Tables", "fillWithoutCuts", "([LSheetTrees$Part;)V"⟩, 5), (⟨"SheetTrees$Tables", "putPart", "(III)V"⟩, 5), (⟨"SheetTrees$Tables", "put", "(III)V"⟩, 5), (⟨"SheetTrees$Tables", "fillStage", "(I)V"⟩, 5), (⟨"SheetTrees$Tables", "choose", "(IIII)V"⟩, 5), (⟨"SheetTrees$Tables", "scoreAt", "(I)I"⟩, 5), (⟨"SheetTrees$Tables", "choiceAt", "(I)I"⟩, 5), (⟨"SheetTrees", "bestSheet", "()I"⟩, 15), (⟨"SheetTrees$Layout", "lay", "(LSheetTrees$Sheet;I)V"⟩, 7), (⟨"SheetTrees$Tables", "scoreOf", "(IIII)I"⟩, 5), (⟨"SheetTrees$Layout", "layTree", "(IIIIII)V"⟩, 7), (⟨"SheetTrees$Tables", "choiceOf", "(IIII)I"⟩, 5), (⟨"SheetTrees$Layout", "addPiece", "(II)V"⟩, 7)]
theorem lw_r1 : ∀ q ∈ lw_privs_1, lw_okq q := List.forall_mem_cons.mpr ⟨lw_p0, List.forall_mem_cons.mpr ⟨lw_p1, List.forall_mem_cons.mpr ⟨lw_p2, List.forall_mem_cons.mpr ⟨lw_p3, List.forall_mem_cons.mpr ⟨lw_p4, List.forall_mem_cons.mpr ⟨lw_p5, List.forall_mem_cons.mpr ⟨lw_p6, List.forall_mem_cons.mpr ⟨lw_p7, List.forall_mem_cons.mpr ⟨lw_p8, List.forall_mem_cons.mpr ⟨lw_p9, List.forall_mem_cons.mpr ⟨lw_p10, List.forall_mem_cons.mpr ⟨lw_p11, List.forall_mem_cons.mpr ⟨lw_p12, List.forall_mem_cons.mpr ⟨lw_p13, List.forall_mem_cons.mpr ⟨lw_p14, List.forall_mem_cons.mpr ⟨lw_p15, fun _ h => absurd h List.not_mem_nil⟩⟩⟩⟩⟩⟩⟩⟩⟩⟩⟩⟩⟩⟩⟩⟩
theorem lw_p16 : lw_okq (⟨"SheetTrees$Layout", "areaToTake", "([LSheetTrees$Part;)I"⟩, 7) := ⟨⟨by decide +kernel, by decide +kernel⟩, List.mem_of_getElem? (i := 66) (by decide +kernel), List.mem_of_getElem? (i := 341) (by decide +kernel), List.mem_of_getElem? (i := 342) (by decide +kernel)⟩
theorem lw_p17 : lw_okq (⟨"SheetTrees$Part", "area", "()I"⟩, 5) := ⟨⟨by decide +kernel, by decide +kernel⟩, List.mem_of_getElem? (i := 127) (by decide +kernel), List.mem_of_getElem? (i := 346) (by decide +kernel), List.mem_of_getElem? (i := 347) (by decide +kernel)⟩
theorem lw_p18 : lw_okq (⟨"SheetTrees", "cutOneOf", "(I)V"⟩, 15) := ⟨⟨by decide +kernel, by decide +kernel⟩, List.mem_of_getElem? (i := 18) (by decide +kernel), List.mem_of_getElem? (i := 350) (by decide +kernel), List.mem_of_getElem? (i := 351) (by decide +kernel)⟩
theorem lw_p19 : lw_okq (⟨"SheetTrees$CutSheet", "start", "(ILSheetTrees$Sheet;LSheetTrees$Layout;)V"⟩, 13) := ⟨⟨by decide +kernel, by decide +kernel⟩, List.mem_of_getElem? (i := 157) (by decide +kernel), List.mem_of_getElem? (i := 354) (by decide +kernel), List.mem_of_getElem? (i := 355) (by decide +kernel)⟩
theorem lw_p20 : lw_okq (⟨"SheetTrees$Sheet", "area", "()I"⟩, 5) := ⟨⟨by decide +kernel, by decide +kernel⟩, List.mem_of_getElem? (i := 98) (by decide +kernel), List.mem_of_getElem? (i := 358) (by decide +kernel), List.mem_of_getElem? (i := 359) (by decide +kernel)⟩
theorem lw_p21 : lw_okq (⟨"SheetTrees$Layout", "partsUsed", "()I"⟩, 7) := ⟨⟨by decide +kernel, by decide +kernel⟩, List.mem_of_getElem? (i := 66) (by decide +kernel), List.mem_of_getElem? (i := 362) (by decide +kernel), List.mem_of_getElem? (i := 363) (by decide +kernel)⟩
theorem lw_p22 : lw_okq (⟨"SheetTrees", "takePieces", "(LSheetTrees$CutSheet;)V"⟩, 15) := ⟨⟨by decide +kernel, by decide +kernel⟩, List.mem_of_getElem? (i := 18) (by decide +kernel), List.mem_of_getElem? (i := 366) (by decide +kernel), List.mem_of_getElem? (i := 367) (by decide +kernel)⟩
theorem lw_p23 : lw_okq (⟨"SheetTrees", "keepRest", "(I)V"⟩, 15) := ⟨⟨by decide +kernel, by decide +kernel⟩, List.mem_of_getElem? (i := 18) (by decide +kernel), List.mem_of_getElem? (i := 373) (by decide +kernel), List.mem_of_getElem? (i := 374) (by decide +kernel)⟩
theorem lw_p24 : lw_okq (⟨"SheetTrees", "takePart", "(LSheetTrees$CutSheet;LSheetTrees$Part;I)V"⟩, 15) := ⟨⟨by decide +kernel, by decide +kernel⟩, List.mem_of_getElem? (i := 18) (by decide +kernel), List.mem_of_getElem? (i := 381) (by decide +kernel), List.mem_of_getElem? (i := 382) (by decide +kernel)⟩
theorem lw_p25 : lw_okq (⟨"SheetTrees", "firstAlike", "(LSheetTrees$CutSheet;)I"⟩, 15) := ⟨⟨by decide +kernel, by decide +kernel⟩, List.mem_of_getElem? (i := 18) (by decide +kernel), List.mem_of_getElem? (i := 386) (by decide +kernel), List.mem_of_getElem? (i := 387) (by decide +kernel)⟩
theorem lw_p26 : lw_okq (⟨"java/lang/Throwable", "fillInStackTrace", "(I)Ljava/lang/Throwable;"⟩, 6) := ⟨⟨by decide +kernel, by decide +kernel⟩, List.mem_of_getElem? (i := 451) (by decide +kernel), List.mem_of_getElem? (i := 449) (by decide +kernel), List.mem_of_getElem? (i := 450) (by decide +kernel)⟩
theorem lw_p27 : lw_okq (⟨"SheetTrees", "partAt", "(I)LSheetTrees$Part;"⟩, 15) := ⟨⟨by decide +kernel, by decide +kernel⟩, List.mem_of_getElem? (i := 18) (by decide +kernel), List.mem_of_getElem? (i := 516) (by decide +kernel), List.mem_of_getElem? (i := 517) (by decide +kernel)⟩
theorem lw_p28 : lw_okq (⟨"SheetTrees", "partsTold", "()I"⟩, 15) := ⟨⟨by decide +kernel, by decide +kernel⟩, List.mem_of_getElem? (i := 18) (by decide +kernel), List.mem_of_getElem? (i := 545) (by decide +kernel), List.mem_of_getElem? (i := 546) (by decide +kernel)⟩
theorem lw_p29 : lw_okq (⟨"SheetTrees$Tables", "valueOf", "(IIII)I"⟩, 5) := ⟨⟨by decide +kernel, by decide +kernel⟩, List.mem_of_getElem? (i := 41) (by decide +kernel), List.mem_of_getElem? (i := 549) (by decide +kernel), List.mem_of_getElem? (i := 550) (by decide +kernel)⟩
theorem lw_p30 : lw_okq (⟨"SheetTrees", "cutSheetAt", "(I)LSheetTrees$CutSheet;"⟩, 15) := ⟨⟨by decide +kernel, by decide +kernel⟩, List.mem_of_getElem? (i := 18) (by decide +kernel), List.mem_of_getElem? (i := 561) (by decide +kernel), List.mem_of_getElem? (i := 562) (by decide +kernel)⟩
theorem lw_p31 : lw_okq (⟨"SheetTrees", "needRun", "()V"⟩, 15) := ⟨⟨by decide +kernel, by decide +kernel⟩, List.mem_of_getElem? (i := 18) (by decide +kernel), List.mem_of_getElem? (i := 565) (by decide +kernel), List.mem_of_getElem? (i := 566) (by decide +kernel)⟩
def lw_privs_2 : List (MethodName × Nat) := [(⟨"SheetTrees$Layout", "areaToTake", "([LSheetTrees$Part;)I"⟩, 7), (⟨"SheetTrees$Part", "area", "()I"⟩, 5), (⟨"SheetTrees", "cutOneOf", "(I)V"⟩, 15), (⟨"SheetTrees$CutSheet", "start", "(ILSheetTrees$Sheet;LSheetTrees$Layout;)V"⟩, 13), (⟨"SheetTrees$Sheet", "area", "()I"⟩, 5), (⟨"SheetTrees$Layout", "partsUsed", "()I"⟩, 7), (⟨"SheetTrees", "takePieces", "(LSheetTrees$CutSheet;)V"⟩, 15), (⟨"SheetTrees", "keepRest", "(I)V"⟩, 15), (⟨"SheetTrees", "takePart", "(LSheetTrees$CutSheet;LSheetTrees$Part;I)V"⟩, 15), (⟨"SheetTrees", "firstAlike", "(LSheetTrees$CutSheet;)I"⟩, 15), (⟨"java/lang/Throwable", "fillInStackTrace", "(I)Ljava/lang/Throwable;"⟩, 6), (⟨"SheetTrees", "partAt", "(I)LSheetTrees$Part;"⟩, 15), (⟨"SheetTrees", "partsTold", "()I"⟩, 15), (⟨"SheetTrees$Tables", "valueOf", "(IIII)I"⟩, 5), (⟨"SheetTrees", "cutSheetAt", "(I)LSheetTrees$CutSheet;"⟩, 15), (⟨"SheetTrees", "needRun", "()V"⟩, 15)]
theorem lw_r2 : ∀ q ∈ lw_privs_2, lw_okq q := List.forall_mem_cons.mpr ⟨lw_p16, List.forall_mem_cons.mpr ⟨lw_p17, List.forall_mem_cons.mpr ⟨lw_p18, List.forall_mem_cons.mpr ⟨lw_p19, List.forall_mem_cons.mpr ⟨lw_p20, List.forall_mem_cons.mpr ⟨lw_p21, List.forall_mem_cons.mpr ⟨lw_p22, List.forall_mem_cons.mpr ⟨lw_p23, List.forall_mem_cons.mpr ⟨lw_p24, List.forall_mem_cons.mpr ⟨lw_p25, List.forall_mem_cons.mpr ⟨lw_p26, List.forall_mem_cons.mpr ⟨lw_p27, List.forall_mem_cons.mpr ⟨lw_p28, List.forall_mem_cons.mpr ⟨lw_p29, List.forall_mem_cons.mpr ⟨lw_p30, List.forall_mem_cons.mpr ⟨lw_p31, fun _ h => absurd h List.not_mem_nil⟩⟩⟩⟩⟩⟩⟩⟩⟩⟩⟩⟩⟩⟩⟩⟩
theorem lw_p32 : lw_okq (⟨"SheetTreesModel", "wantAll", "()V"⟩, 34) := ⟨⟨by decide +kernel, by decide +kernel⟩, List.mem_of_getElem? (i := 608) (by decide +kernel), List.mem_of_getElem? (i := 741) (by decide +kernel), List.mem_of_getElem? (i := 742) (by decide +kernel)⟩
theorem lw_p33 : lw_okq (⟨"SheetTreesModel", "fill", "()V"⟩, 34) := ⟨⟨by decide +kernel, by decide +kernel⟩, List.mem_of_getElem? (i := 608) (by decide +kernel), List.mem_of_getElem? (i := 745) (by decide +kernel), List.mem_of_getElem? (i := 746) (by decide +kernel)⟩
theorem lw_p34 : lw_okq (⟨"SheetTreesModel", "fillOne", "(IIII)V"⟩, 34) := ⟨⟨by decide +kernel, by decide +kernel⟩, List.mem_of_getElem? (i := 608) (by decide +kernel), List.mem_of_getElem? (i := 749) (by decide +kernel), List.mem_of_getElem? (i := 750) (by decide +kernel)⟩
theorem lw_p35 : lw_okq (⟨"SheetTreesModel", "isJust", "(III)Z"⟩, 34) := ⟨⟨by decide +kernel, by decide +kernel⟩, List.mem_of_getElem? (i := 608) (by decide +kernel), List.mem_of_getElem? (i := 756) (by decide +kernel), List.mem_of_getElem? (i := 757) (by decide +kernel)⟩
theorem lw_p36 : lw_okq (⟨"SheetTreesModel", "better", "(IIII)V"⟩, 34) := ⟨⟨by decide +kernel, by decide +kernel⟩, List.mem_of_getElem? (i := 608) (by decide +kernel), List.mem_of_getElem? (i := 760) (by decide +kernel), List.mem_of_getElem? (i := 761) (by decide +kernel)⟩
theorem lw_p37 : lw_okq (⟨"SheetTreesModel", "walk", "(II)V"⟩, 34) := ⟨⟨by decide +kernel, by decide +kernel⟩, List.mem_of_getElem? (i := 608) (by decide +kernel), List.mem_of_getElem? (i := 768) (by decide +kernel), List.mem_of_getElem? (i := 769) (by decide +kernel)⟩
theorem lw_p38 : lw_okq (⟨"SheetTreesModel", "wayOf", "(I)I"⟩, 34) := ⟨⟨by decide +kernel, by decide +kernel⟩, List.mem_of_getElem? (i := 608) (by decide +kernel), List.mem_of_getElem? (i := 772) (by decide +kernel), List.mem_of_getElem? (i := 773) (by decide +kernel)⟩
theorem lw_p39 : lw_okq (⟨"SheetTreesModel", "push", "(IIIIIII)V"⟩, 34) := ⟨⟨by decide +kernel, by decide +kernel⟩, List.mem_of_getElem? (i := 608) (by decide +kernel), List.mem_of_getElem? (i := 776) (by decide +kernel), List.mem_of_getElem? (i := 777) (by decide +kernel)⟩
theorem lw_p40 : lw_okq (⟨"SheetTreesModel", "keepRest", "(IIIII)V"⟩, 34) := ⟨⟨by decide +kernel, by decide +kernel⟩, List.mem_of_getElem? (i := 608) (by decide +kernel), List.mem_of_getElem? (i := 780) (by decide +kernel), List.mem_of_getElem? (i := 781) (by decide +kernel)⟩
theorem lw_p41 : lw_okq (⟨"SheetTreesModel", "take", "(IIIIII)V"⟩, 34) := ⟨⟨by decide +kernel, by decide +kernel⟩, List.mem_of_getElem? (i := 608) (by decide +kernel), List.mem_of_getElem? (i := 784) (by decide +kernel), List.mem_of_getElem? (i := 785) (by decide +kernel)⟩
theorem lw_p42 : lw_okq (⟨"SheetTreesModel", "look", "(III)V"⟩, 34) := ⟨⟨by decide +kernel, by decide +kernel⟩, List.mem_of_getElem? (i := 608) (by decide +kernel), List.mem_of_getElem? (i := 792) (by decide +kernel), List.mem_of_getElem? (i := 793) (by decide +kernel)⟩
theorem lw_p43 : lw_okq (⟨"SheetTreesModel", "isAlike", "(II)Z"⟩, 34) := ⟨⟨by decide +kernel, by decide +kernel⟩, List.mem_of_getElem? (i := 608) (by decide +kernel), List.mem_of_getElem? (i := 796) (by decide +kernel), List.mem_of_getElem? (i := 797) (by decide +kernel)⟩
def lw_privs_3 : List (MethodName × Nat) := [(⟨"SheetTreesModel", "wantAll", "()V"⟩, 34), (⟨"SheetTreesModel", "fill", "()V"⟩, 34), (⟨"SheetTreesModel", "fillOne", "(IIII)V"⟩, 34), (⟨"SheetTreesModel", "isJust", "(III)Z"⟩, 34), (⟨"SheetTreesModel", "better", "(IIII)V"⟩, 34), (⟨"SheetTreesModel", "walk", "(II)V"⟩, 34), (⟨"SheetTreesModel", "wayOf", "(I)I"⟩, 34), (⟨"SheetTreesModel", "push", "(IIIIIII)V"⟩, 34), (⟨"SheetTreesModel", "keepRest", "(IIIII)V"⟩, 34), (⟨"SheetTreesModel", "take", "(IIIIII)V"⟩, 34), (⟨"SheetTreesModel", "look", "(III)V"⟩, 34), (⟨"SheetTreesModel", "isAlike", "(II)Z"⟩, 34)]
theorem lw_r3 : ∀ q ∈ lw_privs_3, lw_okq q := List.forall_mem_cons.mpr ⟨lw_p32, List.forall_mem_cons.mpr ⟨lw_p33, List.forall_mem_cons.mpr ⟨lw_p34, List.forall_mem_cons.mpr ⟨lw_p35, List.forall_mem_cons.mpr ⟨lw_p36, List.forall_mem_cons.mpr ⟨lw_p37, List.forall_mem_cons.mpr ⟨lw_p38, List.forall_mem_cons.mpr ⟨lw_p39, List.forall_mem_cons.mpr ⟨lw_p40, List.forall_mem_cons.mpr ⟨lw_p41, List.forall_mem_cons.mpr ⟨lw_p42, List.forall_mem_cons.mpr ⟨lw_p43, fun _ h => absurd h List.not_mem_nil⟩⟩⟩⟩⟩⟩⟩⟩⟩⟩⟩⟩
def lw_privs : List (MethodName × Nat) := lw_privs_1 ++ (lw_privs_2 ++ (lw_privs_3))
def lw_tbl : List Cond := k2_sels lw_privs ++ tables_1
theorem lw_privs_ok : ∀ q ∈ lw_privs, lw_okq q := by
  show ∀ q ∈ lw_privs_1 ++ (lw_privs_2 ++ (lw_privs_3)), lw_okq q
  exact List.forall_mem_append.mpr ⟨lw_r1, List.forall_mem_append.mpr ⟨lw_r2, lw_r3⟩⟩

/-- what stays true of the tables while they warm -/
def tb_keep : Cond → Bool
  | .fieldLinkNest .. | .methodLinkNest .. | .castable .. | .declares .. | .arrayOver (.object _) => true
  | w => goodWord w
def tb_l : List Cond := lw_tbl.filter tb_keep
theorem tb_at {w : Cond} (i : Nat) (h : lw_tbl[i]? = some w) (hk : tb_keep w = true) : w ∈ tb_l := List.mem_filter.mpr ⟨List.mem_of_getElem? h, hk⟩
def tb_ok (U : State) : Prop := ∀ w ∈ tb_l, ∀ a : Array Value, w.before a U = true
theorem tb_moved {s U : State} (hW : s.WarmedH U.vm) (h : tb_ok s) : tb_ok U := fun w hw a => by
  have hk := (List.mem_filter.mp hw).2
  have h0 := h w hw
  cases w with
  | fieldLinkNest x1 x2 x3 x4 x5 x6 => exact va_Nw.use rfl (va_Nw.warmF hW (va_Nw.of rfl (h0 #[])))
  | methodLinkNest x1 x2 x3 x4 => exact va_Nw.use rfl (va_Nw.warmM hW (va_Nw.of rfl (h0 #[])))
  | castable x1 x2 => exact va_Nw.use rfl (va_Nw.warmC hW (va_Nw.of rfl (h0 #[])))
  | declares x1 => exact va_Nw.use rfl (va_Nw.warmD hW (va_Nw.of rfl (h0 #[])))
  | arrayOver ty =>
    cases ty with
    | object C => exact va_AO.use (va_AO.moved hW.alike (va_AO.of (h0 #[])))
    | _ => exact Bool.noConfusion (show false = true from hk)
  | _ => exact word_at hW (good_of_word hk) (h0 a)
theorem tb_same {s U : State} (hv : U.vm = s.vm) (h : tb_ok s) : tb_ok U := tb_moved (s := s) (by rw [hv]; exact State.WarmedH.refl s) h
def R_CS : String := "SheetTrees$CutSheet"
def F_CS : u_T := fun k => match k with
  | 0 => ("SheetTrees$CutSheet", "sheet", "I", false)
  | 1 => ("SheetTrees$CutSheet", "cents", "I", false)
  | 2 => ("SheetTrees$CutSheet", "area", "I", false)
  | 3 => ("SheetTrees$CutSheet", "way", "I", false)
  | 4 => ("SheetTrees$CutSheet", "cuts", "I", false)
  | 5 => ("SheetTrees$CutSheet", "minutes", "I", false)
  | 6 => ("SheetTrees$CutSheet", "partsUsed", "I", false)
  | 7 => ("SheetTrees$CutSheet", "takenFrom", "I", false)
  | 8 => ("SheetTrees$CutSheet", "takenCount", "I", false)
  | 9 => ("SheetTrees$CutSheet", "takenArea", "I", false)
  | 10 => ("SheetTrees$CutSheet", "restFrom", "I", false)
  | 11 => ("SheetTrees$CutSheet", "restCount", "I", false)
  | _ => ("SheetTrees$CutSheet", "firstAlike", "I", false)
def t_CS : Nat → FieldType := fun k => match k with
  | 0 => .int
  | 1 => .int
  | 2 => .int
  | 3 => .int
  | 4 => .int
  | 5 => .int
  | 6 => .int
  | 7 => .int
  | 8 => .int
  | 9 => .int
  | 10 => .int
  | 11 => .int
  | _ => .int
theorem n_CS : ∀ a, a < 13 → ∀ b, b < 13 → a ≠ b → (F_CS a).2.1 ≠ (F_CS b).2.1 := by decide +kernel
theorem t_CS_ok : ∀ k, k < 13 → parseFieldDescriptor (F_CS k).2.2.1 = some (t_CS k) := by decide +kernel
def R_LY : String := "SheetTrees$Layout"
def F_LY : u_T := fun k => match k with
  | 0 => ("SheetTrees$Layout", "tables", "LSheetTrees$Tables;", true)
  | 1 => ("SheetTrees$Layout", "pieces", "[I", true)
  | 2 => ("SheetTrees$Layout", "copies", "[I", true)
  | 3 => ("SheetTrees$Layout", "pieceCount", "I", false)
  | 4 => ("SheetTrees$Layout", "way", "I", false)
  | 5 => ("SheetTrees$Layout", "cuts", "I", false)
  | _ => ("SheetTrees$Layout", "minutes", "I", false)
def t_LY : Nat → FieldType := fun k => match k with
  | 0 => .object "SheetTrees$Tables"
  | 1 => .array .int
  | 2 => .array .int
  | 3 => .int
  | 4 => .int
  | 5 => .int
  | _ => .int
theorem n_LY : ∀ a, a < 7 → ∀ b, b < 7 → a ≠ b → (F_LY a).2.1 ≠ (F_LY b).2.1 := by decide +kernel
theorem t_LY_ok : ∀ k, k < 7 → parseFieldDescriptor (F_LY k).2.2.1 = some (t_LY k) := by decide +kernel
def R_PA : String := "SheetTrees$Part"
def F_PA : u_T := fun k => match k with
  | 0 => ("SheetTrees$Part", "width", "I", false)
  | 1 => ("SheetTrees$Part", "height", "I", false)
  | 2 => ("SheetTrees$Part", "turns", "Z", false)
  | 3 => ("SheetTrees$Part", "count", "I", false)
  | _ => ("SheetTrees$Part", "left", "I", false)
def t_PA : Nat → FieldType := fun k => match k with
  | 0 => .int
  | 1 => .int
  | 2 => .boolean
  | 3 => .int
  | _ => .int
theorem n_PA : ∀ a, a < 5 → ∀ b, b < 5 → a ≠ b → (F_PA a).2.1 ≠ (F_PA b).2.1 := by decide +kernel
theorem t_PA_ok : ∀ k, k < 5 → parseFieldDescriptor (F_PA k).2.2.1 = some (t_PA k) := by decide +kernel
def R_SH : String := "SheetTrees$Sheet"
def F_SH : u_T := fun k => match k with
  | 0 => ("SheetTrees$Sheet", "width", "I", false)
  | 1 => ("SheetTrees$Sheet", "height", "I", false)
  | 2 => ("SheetTrees$Sheet", "cents", "I", false)
  | 3 => ("SheetTrees$Sheet", "stock", "I", false)
  | _ => ("SheetTrees$Sheet", "unused", "I", false)
def t_SH : Nat → FieldType := fun k => match k with
  | 0 => .int
  | 1 => .int
  | 2 => .int
  | 3 => .int
  | _ => .int
theorem n_SH : ∀ a, a < 5 → ∀ b, b < 5 → a ≠ b → (F_SH a).2.1 ≠ (F_SH b).2.1 := by decide +kernel
theorem t_SH_ok : ∀ k, k < 5 → parseFieldDescriptor (F_SH k).2.2.1 = some (t_SH k) := by decide +kernel
def R_TB : String := "SheetTrees$Tables"
def F_TB : u_T := fun k => match k with
  | 0 => ("SheetTrees$Tables", "kerf", "I", true)
  | 1 => ("SheetTrees$Tables", "scores", "[I", true)
  | 2 => ("SheetTrees$Tables", "choices", "[I", true)
  | 3 => ("SheetTrees$Tables", "wanted", "I", false)
  | _ => ("SheetTrees$Tables", "stagesFilled", "I", false)
def t_TB : Nat → FieldType := fun k => match k with
  | 0 => .int
  | 1 => .array .int
  | 2 => .array .int
  | 3 => .int
  | _ => .int
theorem n_TB : ∀ a, a < 5 → ∀ b, b < 5 → a ≠ b → (F_TB a).2.1 ≠ (F_TB b).2.1 := by decide +kernel
theorem t_TB_ok : ∀ k, k < 5 → parseFieldDescriptor (F_TB k).2.2.1 = some (t_TB k) := by decide +kernel
def R_ST : String := "SheetTrees"
def F_ST : u_T := fun k => match k with
  | 0 => ("SheetTrees", "stages", "I", true)
  | 1 => ("SheetTrees", "least", "I", true)
  | 2 => ("SheetTrees", "sheets", "[LSheetTrees$Sheet;", true)
  | 3 => ("SheetTrees", "parts", "[LSheetTrees$Part;", true)
  | 4 => ("SheetTrees", "cutSheets", "[LSheetTrees$CutSheet;", true)
  | 5 => ("SheetTrees", "takenPieces", "[I", true)
  | 6 => ("SheetTrees", "restPieces", "[I", true)
  | 7 => ("SheetTrees", "tables", "LSheetTrees$Tables;", true)
  | 8 => ("SheetTrees", "layout", "LSheetTrees$Layout;", true)
  | 9 => ("SheetTrees", "sheetCount", "I", false)
  | 10 => ("SheetTrees", "partCount", "I", false)
  | 11 => ("SheetTrees", "cutCount", "I", false)
  | 12 => ("SheetTrees", "takenCount", "I", false)
  | 13 => ("SheetTrees", "restCount", "I", false)
  | _ => ("SheetTrees", "ran", "Z", false)
def t_ST : Nat → FieldType := fun k => match k with
  | 0 => .int
  | 1 => .int
  | 2 => .array (.object "SheetTrees$Sheet")
  | 3 => .array (.object "SheetTrees$Part")
  | 4 => .array (.object "SheetTrees$CutSheet")
  | 5 => .array .int
  | 6 => .array .int
  | 7 => .object "SheetTrees$Tables"
  | 8 => .object "SheetTrees$Layout"
  | 9 => .int
  | 10 => .int
  | 11 => .int
  | 12 => .int
  | 13 => .int
  | _ => .boolean
theorem n_ST : ∀ a, a < 15 → ∀ b, b < 15 → a ≠ b → (F_ST a).2.1 ≠ (F_ST b).2.1 := by decide +kernel
theorem t_ST_ok : ∀ k, k < 15 → parseFieldDescriptor (F_ST k).2.2.1 = some (t_ST k) := by decide +kernel
def R_MO : String := "SheetTreesModel"
def F_MO : u_T := fun k => match k with
  | 0 => ("SheetTreesModel", "code", "I", false)
  | 1 => ("SheetTreesModel", "kerf", "I", true)
  | 2 => ("SheetTreesModel", "stages", "I", true)
  | 3 => ("SheetTreesModel", "least", "I", true)
  | 4 => ("SheetTreesModel", "sheets", "I", false)
  | 5 => ("SheetTreesModel", "sheetWidth", "[I", true)
  | 6 => ("SheetTreesModel", "sheetHeight", "[I", true)
  | 7 => ("SheetTreesModel", "cents", "[I", true)
  | 8 => ("SheetTreesModel", "stock", "[I", true)
  | 9 => ("SheetTreesModel", "parts", "I", false)
  | 10 => ("SheetTreesModel", "partWidth", "[I", true)
  | 11 => ("SheetTreesModel", "partHeight", "[I", true)
  | 12 => ("SheetTreesModel", "counts", "[I", true)
  | 13 => ("SheetTreesModel", "turns", "[Z", true)
  | 14 => ("SheetTreesModel", "wanted", "[I", true)
  | 15 => ("SheetTreesModel", "inStock", "[I", true)
  | 16 => ("SheetTreesModel", "still", "[I", true)
  | 17 => ("SheetTreesModel", "values", "[I", true)
  | 18 => ("SheetTreesModel", "cuts", "[I", true)
  | 19 => ("SheetTreesModel", "choices", "[I", true)
  | 20 => ("SheetTreesModel", "waiting", "[I", true)
  | 21 => ("SheetTreesModel", "ran", "Z", false)
  | 22 => ("SheetTreesModel", "done", "I", false)
  | 23 => ("SheetTreesModel", "ofSheet", "[I", true)
  | 24 => ("SheetTreesModel", "firstWay", "[I", true)
  | 25 => ("SheetTreesModel", "cutCount", "[I", true)
  | 26 => ("SheetTreesModel", "minutes", "[I", true)
  | 27 => ("SheetTreesModel", "takenCount", "[I", true)
  | 28 => ("SheetTreesModel", "takenArea", "[I", true)
  | 29 => ("SheetTreesModel", "restCount", "[I", true)
  | 30 => ("SheetTreesModel", "nodeCount", "[I", true)
  | 31 => ("SheetTreesModel", "nodes", "[I", true)
  | 32 => ("SheetTreesModel", "takens", "[I", true)
  | _ => ("SheetTreesModel", "rests", "[I", true)
def t_MO : Nat → FieldType := fun k => match k with
  | 0 => .int
  | 1 => .int
  | 2 => .int
  | 3 => .int
  | 4 => .int
  | 5 => .array .int
  | 6 => .array .int
  | 7 => .array .int
  | 8 => .array .int
  | 9 => .int
  | 10 => .array .int
  | 11 => .array .int
  | 12 => .array .int
  | 13 => .array .boolean
  | 14 => .array .int
  | 15 => .array .int
  | 16 => .array .int
  | 17 => .array .int
  | 18 => .array .int
  | 19 => .array .int
  | 20 => .array .int
  | 21 => .boolean
  | 22 => .int
  | 23 => .array .int
  | 24 => .array .int
  | 25 => .array .int
  | 26 => .array .int
  | 27 => .array .int
  | 28 => .array .int
  | 29 => .array .int
  | 30 => .array .int
  | 31 => .array .int
  | 32 => .array .int
  | _ => .array .int
theorem n_MO : ∀ a, a < 34 → ∀ b, b < 34 → a ≠ b → (F_MO a).2.1 ≠ (F_MO b).2.1 := by decide +kernel
theorem t_MO_ok : ∀ k, k < 34 → parseFieldDescriptor (F_MO k).2.2.1 = some (t_MO k) := by decide +kernel
def R_LW : String := "SheetTreesLaw"
def R_PI : String := "SheetTrees$Piece"
def R_AR : String := "java/util/Arrays"
abbrev classes : List vw_C := [(R_CS, F_CS, 13), (R_LY, F_LY, 7), (R_PA, F_PA, 5), (R_SH, F_SH, 5), (R_TB, F_TB, 5), (R_ST, F_ST, 15), (R_MO, F_MO, 34)]
set_option maxRecDepth 100000 in
theorem i_CS : ∀ w ∈ u_ws R_CS F_CS 13, w ∈ tb_l := by
  intro w hw
  obtain ⟨k, hk, rfl⟩ := List.mem_map.mp hw
  have hk := List.mem_range.mp hk
  rcases (show k = 0 ∨ k = 1 ∨ k = 2 ∨ k = 3 ∨ k = 4 ∨ k = 5 ∨ k = 6 ∨ k = 7 ∨ k = 8 ∨ k = 9 ∨ k = 10 ∨ k = 11 ∨ k = 12 by omega) with rfl | rfl | rfl | rfl | rfl | rfl | rfl | rfl | rfl | rfl | rfl | rfl | rfl
  · exact tb_at 232 rfl rfl
  · exact tb_at 234 rfl rfl
  · exact tb_at 236 rfl rfl
  · exact tb_at 238 rfl rfl
  · exact tb_at 240 rfl rfl
  · exact tb_at 242 rfl rfl
  · exact tb_at 244 rfl rfl
  · exact tb_at 246 rfl rfl
  · exact tb_at 248 rfl rfl
  · exact tb_at 250 rfl rfl
  · exact tb_at 252 rfl rfl
  · exact tb_at 254 rfl rfl
  · exact tb_at 256 rfl rfl
set_option maxRecDepth 100000 in
theorem i_LY : ∀ w ∈ u_ws R_LY F_LY 7, w ∈ tb_l := by
  intro w hw
  obtain ⟨k, hk, rfl⟩ := List.mem_map.mp hw
  have hk := List.mem_range.mp hk
  rcases (show k = 0 ∨ k = 1 ∨ k = 2 ∨ k = 3 ∨ k = 4 ∨ k = 5 ∨ k = 6 by omega) with rfl | rfl | rfl | rfl | rfl | rfl | rfl
  · exact tb_at 127 rfl rfl
  · exact tb_at 129 rfl rfl
  · exact tb_at 131 rfl rfl
  · exact tb_at 133 rfl rfl
  · exact tb_at 135 rfl rfl
  · exact tb_at 137 rfl rfl
  · exact tb_at 139 rfl rfl
set_option maxRecDepth 100000 in
theorem i_PA : ∀ w ∈ u_ws R_PA F_PA 5, w ∈ tb_l := by
  intro w hw
  obtain ⟨k, hk, rfl⟩ := List.mem_map.mp hw
  have hk := List.mem_range.mp hk
  rcases (show k = 0 ∨ k = 1 ∨ k = 2 ∨ k = 3 ∨ k = 4 by omega) with rfl | rfl | rfl | rfl | rfl
  · exact tb_at 190 rfl rfl
  · exact tb_at 192 rfl rfl
  · exact tb_at 194 rfl rfl
  · exact tb_at 196 rfl rfl
  · exact tb_at 198 rfl rfl
set_option maxRecDepth 100000 in
theorem i_SH : ∀ w ∈ u_ws R_SH F_SH 5, w ∈ tb_l := by
  intro w hw
  obtain ⟨k, hk, rfl⟩ := List.mem_map.mp hw
  have hk := List.mem_range.mp hk
  rcases (show k = 0 ∨ k = 1 ∨ k = 2 ∨ k = 3 ∨ k = 4 by omega) with rfl | rfl | rfl | rfl | rfl
  · exact tb_at 160 rfl rfl
  · exact tb_at 162 rfl rfl
  · exact tb_at 164 rfl rfl
  · exact tb_at 166 rfl rfl
  · exact tb_at 168 rfl rfl
set_option maxRecDepth 100000 in
theorem i_TB : ∀ w ∈ u_ws R_TB F_TB 5, w ∈ tb_l := by
  intro w hw
  obtain ⟨k, hk, rfl⟩ := List.mem_map.mp hw
  have hk := List.mem_range.mp hk
  rcases (show k = 0 ∨ k = 1 ∨ k = 2 ∨ k = 3 ∨ k = 4 by omega) with rfl | rfl | rfl | rfl | rfl
  · exact tb_at 97 rfl rfl
  · exact tb_at 99 rfl rfl
  · exact tb_at 101 rfl rfl
  · exact tb_at 103 rfl rfl
  · exact tb_at 105 rfl rfl
set_option maxRecDepth 100000 in
theorem i_ST : ∀ w ∈ u_ws R_ST F_ST 15, w ∈ tb_l := by
  intro w hw
  obtain ⟨k, hk, rfl⟩ := List.mem_map.mp hw
  have hk := List.mem_range.mp hk
  rcases (show k = 0 ∨ k = 1 ∨ k = 2 ∨ k = 3 ∨ k = 4 ∨ k = 5 ∨ k = 6 ∨ k = 7 ∨ k = 8 ∨ k = 9 ∨ k = 10 ∨ k = 11 ∨ k = 12 ∨ k = 13 ∨ k = 14 by omega) with rfl | rfl | rfl | rfl | rfl | rfl | rfl | rfl | rfl | rfl | rfl | rfl | rfl | rfl | rfl
  · exact tb_at 274 rfl rfl
  · exact tb_at 276 rfl rfl
  · exact tb_at 278 rfl rfl
  · exact tb_at 280 rfl rfl
  · exact tb_at 282 rfl rfl
  · exact tb_at 284 rfl rfl
  · exact tb_at 286 rfl rfl
  · exact tb_at 288 rfl rfl
  · exact tb_at 290 rfl rfl
  · exact tb_at 292 rfl rfl
  · exact tb_at 294 rfl rfl
  · exact tb_at 296 rfl rfl
  · exact tb_at 298 rfl rfl
  · exact tb_at 300 rfl rfl
  · exact tb_at 302 rfl rfl
set_option maxRecDepth 100000 in
theorem i_MO : ∀ w ∈ u_ws R_MO F_MO 34, w ∈ tb_l := by
  intro w hw
  obtain ⟨k, hk, rfl⟩ := List.mem_map.mp hw
  have hk := List.mem_range.mp hk
  rcases (show k = 0 ∨ k = 1 ∨ k = 2 ∨ k = 3 ∨ k = 4 ∨ k = 5 ∨ k = 6 ∨ k = 7 ∨ k = 8 ∨ k = 9 ∨ k = 10 ∨ k = 11 ∨ k = 12 ∨ k = 13 ∨ k = 14 ∨ k = 15 ∨ k = 16 ∨ k = 17 ∨ k = 18 ∨ k = 19 ∨ k = 20 ∨ k = 21 ∨ k = 22 ∨ k = 23 ∨ k = 24 ∨ k = 25 ∨ k = 26 ∨ k = 27 ∨ k = 28 ∨ k = 29 ∨ k = 30 ∨ k = 31 ∨ k = 32 ∨ k = 33 by omega) with rfl | rfl | rfl | rfl | rfl | rfl | rfl | rfl | rfl | rfl | rfl | rfl | rfl | rfl | rfl | rfl | rfl | rfl | rfl | rfl | rfl | rfl | rfl | rfl | rfl | rfl | rfl | rfl | rfl | rfl | rfl | rfl | rfl | rfl
  · exact tb_at 691 rfl rfl
  · exact tb_at 693 rfl rfl
  · exact tb_at 695 rfl rfl
  · exact tb_at 697 rfl rfl
  · exact tb_at 699 rfl rfl
  · exact tb_at 701 rfl rfl
  · exact tb_at 703 rfl rfl
  · exact tb_at 705 rfl rfl
  · exact tb_at 707 rfl rfl
  · exact tb_at 709 rfl rfl
  · exact tb_at 711 rfl rfl
  · exact tb_at 713 rfl rfl
  · exact tb_at 715 rfl rfl
  · exact tb_at 717 rfl rfl
  · exact tb_at 719 rfl rfl
  · exact tb_at 721 rfl rfl
  · exact tb_at 723 rfl rfl
  · exact tb_at 725 rfl rfl
  · exact tb_at 727 rfl rfl
  · exact tb_at 729 rfl rfl
  · exact tb_at 731 rfl rfl
  · exact tb_at 733 rfl rfl
  · exact tb_at 735 rfl rfl
  · exact tb_at 737 rfl rfl
  · exact tb_at 739 rfl rfl
  · exact tb_at 741 rfl rfl
  · exact tb_at 743 rfl rfl
  · exact tb_at 745 rfl rfl
  · exact tb_at 747 rfl rfl
  · exact tb_at 749 rfl rfl
  · exact tb_at 751 rfl rfl
  · exact tb_at 753 rfl rfl
  · exact tb_at 755 rfl rfl
  · exact tb_at 757 rfl rfl
abbrev b_ST_init : ByteArray := prog_1_method_1_code
def y_ST_init : MethodName := ⟨"SheetTrees", "<init>", "(III)V"⟩
abbrev b_ST_sheet : ByteArray := prog_1_method_2_code
def y_ST_sheet : MethodName := ⟨"SheetTrees", "sheet", "(IIII)I"⟩
abbrev b_ST_part : ByteArray := prog_1_method_3_code
def y_ST_part : MethodName := ⟨"SheetTrees", "part", "(IIIZ)I"⟩
abbrev b_ST_count : ByteArray := prog_1_method_4_code
def y_ST_count : MethodName := ⟨"SheetTrees", "count", "(II)I"⟩
abbrev b_ST_worth : ByteArray := prog_1_method_5_code
def y_ST_worth : MethodName := ⟨"SheetTrees", "worth", "(IIII)I"⟩
abbrev b_ST_run : ByteArray := prog_1_method_6_code
def y_ST_run : MethodName := ⟨"SheetTrees", "run", "()I"⟩
abbrev b_ST_cut : ByteArray := prog_1_method_7_code
def y_ST_cut : MethodName := ⟨"SheetTrees", "cut", "(II)I"⟩
abbrev b_ST_taken : ByteArray := prog_1_method_8_code
def y_ST_taken : MethodName := ⟨"SheetTrees", "taken", "(III)I"⟩
abbrev b_ST_rest : ByteArray := prog_1_method_9_code
def y_ST_rest : MethodName := ⟨"SheetTrees", "rest", "(III)I"⟩
abbrev b_ST_left : ByteArray := prog_1_method_10_code
def y_ST_left : MethodName := ⟨"SheetTrees", "left", "(I)I"⟩
abbrev b_ST_all : ByteArray := prog_1_method_11_code
def y_ST_all : MethodName := ⟨"SheetTrees", "all", "(I)J"⟩
abbrev b_ST_bound : ByteArray := prog_1_method_12_code
def y_ST_bound : MethodName := ⟨"SheetTrees", "bound", "()I"⟩
abbrev b_ST_nearest : ByteArray := prog_1_method_13_code
def y_ST_nearest : MethodName := ⟨"SheetTrees", "nearest", "(III)I"⟩
abbrev b_ST_isWithin : ByteArray := prog_1_method_14_code
def y_ST_isWithin : MethodName := ⟨"SheetTrees", "isWithin", "(III)Z"⟩
abbrev b_ST_isSide : ByteArray := prog_1_method_15_code
def y_ST_isSide : MethodName := ⟨"SheetTrees", "isSide", "(I)Z"⟩
abbrev b_ST_pieceAt : ByteArray := prog_1_method_16_code
def y_ST_pieceAt : MethodName := ⟨"SheetTrees", "pieceAt", "([II)I"⟩
abbrev b_ST_needRun : ByteArray := prog_1_method_17_code
def y_ST_needRun : MethodName := ⟨"SheetTrees", "needRun", "()V"⟩
abbrev b_ST_partAt : ByteArray := prog_1_method_18_code
def y_ST_partAt : MethodName := ⟨"SheetTrees", "partAt", "(I)LSheetTrees$Part;"⟩
abbrev b_ST_cutSheetAt : ByteArray := prog_1_method_19_code
def y_ST_cutSheetAt : MethodName := ⟨"SheetTrees", "cutSheetAt", "(I)LSheetTrees$CutSheet;"⟩
abbrev b_ST_partsTold : ByteArray := prog_1_method_20_code
def y_ST_partsTold : MethodName := ⟨"SheetTrees", "partsTold", "()I"⟩
abbrev b_ST_partsStillWanted : ByteArray := prog_1_method_21_code
def y_ST_partsStillWanted : MethodName := ⟨"SheetTrees", "partsStillWanted", "()I"⟩
abbrev b_ST_startRun : ByteArray := prog_1_method_22_code
def y_ST_startRun : MethodName := ⟨"SheetTrees", "startRun", "()V"⟩
abbrev b_ST_bestSheet : ByteArray := prog_1_method_23_code
def y_ST_bestSheet : MethodName := ⟨"SheetTrees", "bestSheet", "()I"⟩
abbrev b_ST_cutOneOf : ByteArray := prog_1_method_24_code
def y_ST_cutOneOf : MethodName := ⟨"SheetTrees", "cutOneOf", "(I)V"⟩
abbrev b_ST_takePieces : ByteArray := prog_1_method_25_code
def y_ST_takePieces : MethodName := ⟨"SheetTrees", "takePieces", "(LSheetTrees$CutSheet;)V"⟩
abbrev b_ST_takePart : ByteArray := prog_1_method_26_code
def y_ST_takePart : MethodName := ⟨"SheetTrees", "takePart", "(LSheetTrees$CutSheet;LSheetTrees$Part;I)V"⟩
abbrev b_ST_keepRest : ByteArray := prog_1_method_27_code
def y_ST_keepRest : MethodName := ⟨"SheetTrees", "keepRest", "(I)V"⟩
abbrev b_ST_firstAlike : ByteArray := prog_1_method_28_code
def y_ST_firstAlike : MethodName := ⟨"SheetTrees", "firstAlike", "(LSheetTrees$CutSheet;)I"⟩
abbrev b_MO_init : ByteArray := prog_9_method_1_code
def y_MO_init : MethodName := ⟨"SheetTreesModel", "<init>", "(III)V"⟩
abbrev b_MO_thrown : ByteArray := prog_9_method_2_code
def y_MO_thrown : MethodName := ⟨"SheetTreesModel", "thrown", "()I"⟩
abbrev b_MO_in : ByteArray := prog_9_method_3_code
def y_MO_in : MethodName := ⟨"SheetTreesModel", "in", "(III)Z"⟩
abbrev b_MO_sheet : ByteArray := prog_9_method_4_code
def y_MO_sheet : MethodName := ⟨"SheetTreesModel", "sheet", "(IIII)I"⟩
abbrev b_MO_part : ByteArray := prog_9_method_5_code
def y_MO_part : MethodName := ⟨"SheetTreesModel", "part", "(IIIZ)I"⟩
abbrev b_MO_count : ByteArray := prog_9_method_6_code
def y_MO_count : MethodName := ⟨"SheetTreesModel", "count", "(II)I"⟩
abbrev b_MO_place : ByteArray := prog_9_method_7_code
def y_MO_place : MethodName := ⟨"SheetTreesModel", "place", "(IIII)I"⟩
abbrev b_MO_isJust : ByteArray := prog_9_method_8_code
def y_MO_isJust : MethodName := ⟨"SheetTreesModel", "isJust", "(III)Z"⟩
abbrev b_MO_better : ByteArray := prog_9_method_9_code
def y_MO_better : MethodName := ⟨"SheetTreesModel", "better", "(IIII)V"⟩
abbrev b_MO_fillOne : ByteArray := prog_9_method_10_code
def y_MO_fillOne : MethodName := ⟨"SheetTreesModel", "fillOne", "(IIII)V"⟩
abbrev b_MO_fill : ByteArray := prog_9_method_11_code
def y_MO_fill : MethodName := ⟨"SheetTreesModel", "fill", "()V"⟩
abbrev b_MO_wantAll : ByteArray := prog_9_method_12_code
def y_MO_wantAll : MethodName := ⟨"SheetTreesModel", "wantAll", "()V"⟩
abbrev b_MO_worth : ByteArray := prog_9_method_13_code
def y_MO_worth : MethodName := ⟨"SheetTreesModel", "worth", "(IIII)I"⟩
abbrev b_MO_wayOf : ByteArray := prog_9_method_14_code
def y_MO_wayOf : MethodName := ⟨"SheetTreesModel", "wayOf", "(I)I"⟩
abbrev b_MO_push : ByteArray := prog_9_method_15_code
def y_MO_push : MethodName := ⟨"SheetTreesModel", "push", "(IIIIIII)V"⟩
abbrev b_MO_walk : ByteArray := prog_9_method_16_code
def y_MO_walk : MethodName := ⟨"SheetTreesModel", "walk", "(II)V"⟩
abbrev b_MO_keepRest : ByteArray := prog_9_method_17_code
def y_MO_keepRest : MethodName := ⟨"SheetTreesModel", "keepRest", "(IIIII)V"⟩
abbrev b_MO_take : ByteArray := prog_9_method_18_code
def y_MO_take : MethodName := ⟨"SheetTreesModel", "take", "(IIIIII)V"⟩
abbrev b_MO_run : ByteArray := prog_9_method_19_code
def y_MO_run : MethodName := ⟨"SheetTreesModel", "run", "()I"⟩
abbrev b_MO_look : ByteArray := prog_9_method_20_code
def y_MO_look : MethodName := ⟨"SheetTreesModel", "look", "(III)V"⟩
abbrev b_MO_isAlike : ByteArray := prog_9_method_21_code
def y_MO_isAlike : MethodName := ⟨"SheetTreesModel", "isAlike", "(II)Z"⟩
abbrev b_MO_cut : ByteArray := prog_9_method_22_code
def y_MO_cut : MethodName := ⟨"SheetTreesModel", "cut", "(II)I"⟩
abbrev b_MO_taken : ByteArray := prog_9_method_23_code
def y_MO_taken : MethodName := ⟨"SheetTreesModel", "taken", "(III)I"⟩
abbrev b_MO_rest : ByteArray := prog_9_method_24_code
def y_MO_rest : MethodName := ⟨"SheetTreesModel", "rest", "(III)I"⟩
abbrev b_MO_left : ByteArray := prog_9_method_25_code
def y_MO_left : MethodName := ⟨"SheetTreesModel", "left", "(I)I"⟩
abbrev b_MO_all : ByteArray := prog_9_method_26_code
def y_MO_all : MethodName := ⟨"SheetTreesModel", "all", "(I)J"⟩
abbrev b_MO_bound : ByteArray := prog_9_method_27_code
def y_MO_bound : MethodName := ⟨"SheetTreesModel", "bound", "()I"⟩
abbrev b_CS_init : ByteArray := prog_2_method_1_code
def y_CS_init : MethodName := ⟨"SheetTrees$CutSheet", "<init>", "()V"⟩
abbrev b_CS_start : ByteArray := prog_2_method_2_code
def y_CS_start : MethodName := ⟨"SheetTrees$CutSheet", "start", "(ILSheetTrees$Sheet;LSheetTrees$Layout;)V"⟩
abbrev b_LY_init : ByteArray := prog_3_method_1_code
def y_LY_init : MethodName := ⟨"SheetTrees$Layout", "<init>", "(LSheetTrees$Tables;)V"⟩
abbrev b_LY_lay : ByteArray := prog_3_method_2_code
def y_LY_lay : MethodName := ⟨"SheetTrees$Layout", "lay", "(LSheetTrees$Sheet;I)V"⟩
abbrev b_LY_layTree : ByteArray := prog_3_method_3_code
def y_LY_layTree : MethodName := ⟨"SheetTrees$Layout", "layTree", "(IIIIII)V"⟩
abbrev b_LY_addPiece : ByteArray := prog_3_method_4_code
def y_LY_addPiece : MethodName := ⟨"SheetTrees$Layout", "addPiece", "(II)V"⟩
abbrev b_LY_areaToTake : ByteArray := prog_3_method_5_code
def y_LY_areaToTake : MethodName := ⟨"SheetTrees$Layout", "areaToTake", "([LSheetTrees$Part;)I"⟩
abbrev b_LY_partsUsed : ByteArray := prog_3_method_6_code
def y_LY_partsUsed : MethodName := ⟨"SheetTrees$Layout", "partsUsed", "()I"⟩
abbrev b_PA_init : ByteArray := prog_4_method_1_code
def y_PA_init : MethodName := ⟨"SheetTrees$Part", "<init>", "()V"⟩
abbrev b_PA_area : ByteArray := prog_4_method_2_code
def y_PA_area : MethodName := ⟨"SheetTrees$Part", "area", "()I"⟩
abbrev b_PI_of : ByteArray := prog_5_method_2_code
def y_PI_of : MethodName := ⟨"SheetTrees$Piece", "of", "(IIIII)I"⟩
abbrev b_PI_field : ByteArray := prog_5_method_3_code
def y_PI_field : MethodName := ⟨"SheetTrees$Piece", "field", "(II)I"⟩
abbrev b_PI_isAtLeast : ByteArray := prog_5_method_4_code
def y_PI_isAtLeast : MethodName := ⟨"SheetTrees$Piece", "isAtLeast", "(II)Z"⟩
abbrev b_SH_init : ByteArray := prog_6_method_1_code
def y_SH_init : MethodName := ⟨"SheetTrees$Sheet", "<init>", "()V"⟩
abbrev b_SH_area : ByteArray := prog_6_method_2_code
def y_SH_area : MethodName := ⟨"SheetTrees$Sheet", "area", "()I"⟩
abbrev b_TB_init : ByteArray := prog_7_method_1_code
def y_TB_init : MethodName := ⟨"SheetTrees$Tables", "<init>", "(I)V"⟩
abbrev b_TB_fill : ByteArray := prog_7_method_2_code
def y_TB_fill : MethodName := ⟨"SheetTrees$Tables", "fill", "([LSheetTrees$Part;II)V"⟩
abbrev b_TB_valueOf : ByteArray := prog_7_method_3_code
def y_TB_valueOf : MethodName := ⟨"SheetTrees$Tables", "valueOf", "(IIII)I"⟩
abbrev b_TB_scoreOf : ByteArray := prog_7_method_4_code
def y_TB_scoreOf : MethodName := ⟨"SheetTrees$Tables", "scoreOf", "(IIII)I"⟩
abbrev b_TB_choiceOf : ByteArray := prog_7_method_5_code
def y_TB_choiceOf : MethodName := ⟨"SheetTrees$Tables", "choiceOf", "(IIII)I"⟩
abbrev b_TB_placeOf : ByteArray := prog_7_method_6_code
def y_TB_placeOf : MethodName := ⟨"SheetTrees$Tables", "placeOf", "(IIII)I"⟩
abbrev b_TB_scoreAt : ByteArray := prog_7_method_7_code
def y_TB_scoreAt : MethodName := ⟨"SheetTrees$Tables", "scoreAt", "(I)I"⟩
abbrev b_TB_choiceAt : ByteArray := prog_7_method_8_code
def y_TB_choiceAt : MethodName := ⟨"SheetTrees$Tables", "choiceAt", "(I)I"⟩
abbrev b_TB_put : ByteArray := prog_7_method_9_code
def y_TB_put : MethodName := ⟨"SheetTrees$Tables", "put", "(III)V"⟩
abbrev b_TB_fillWithoutCuts : ByteArray := prog_7_method_10_code
def y_TB_fillWithoutCuts : MethodName := ⟨"SheetTrees$Tables", "fillWithoutCuts", "([LSheetTrees$Part;)V"⟩
abbrev b_TB_putPart : ByteArray := prog_7_method_11_code
def y_TB_putPart : MethodName := ⟨"SheetTrees$Tables", "putPart", "(III)V"⟩
abbrev b_TB_fillStage : ByteArray := prog_7_method_12_code
def y_TB_fillStage : MethodName := ⟨"SheetTrees$Tables", "fillStage", "(I)V"⟩
abbrev b_TB_choose : ByteArray := prog_7_method_13_code
def y_TB_choose : MethodName := ⟨"SheetTrees$Tables", "choose", "(IIII)V"⟩
abbrev b_LW_cell : ByteArray := method_2_code
def y_LW_cell : MethodName := ⟨"SheetTreesLaw", "cell", "([II)I"⟩
abbrev b_LW_sheet : ByteArray := method_3_code
def y_LW_sheet : MethodName := ⟨"SheetTreesLaw", "sheet", "(LSheetTrees;IIII[J)I"⟩
abbrev b_LW_part : ByteArray := method_4_code
def y_LW_part : MethodName := ⟨"SheetTreesLaw", "part", "(LSheetTrees;IIIZ[J)I"⟩
abbrev b_LW_count : ByteArray := method_5_code
def y_LW_count : MethodName := ⟨"SheetTreesLaw", "count", "(LSheetTrees;II[J)I"⟩
abbrev b_LW_worth : ByteArray := method_6_code
def y_LW_worth : MethodName := ⟨"SheetTreesLaw", "worth", "(LSheetTrees;IIII[J)I"⟩
abbrev b_LW_cut : ByteArray := method_7_code
def y_LW_cut : MethodName := ⟨"SheetTreesLaw", "cut", "(LSheetTrees;II[J)I"⟩
abbrev b_LW_taken : ByteArray := method_8_code
def y_LW_taken : MethodName := ⟨"SheetTreesLaw", "taken", "(LSheetTrees;III[J)I"⟩
abbrev b_LW_rest : ByteArray := method_9_code
def y_LW_rest : MethodName := ⟨"SheetTreesLaw", "rest", "(LSheetTrees;III[J)I"⟩
abbrev b_LW_left : ByteArray := method_10_code
def y_LW_left : MethodName := ⟨"SheetTreesLaw", "left", "(LSheetTrees;I[J)I"⟩
abbrev b_LW_all : ByteArray := method_11_code
def y_LW_all : MethodName := ⟨"SheetTreesLaw", "all", "(LSheetTrees;I[J)I"⟩
abbrev b_MA_max : ByteArray := prog_14_method_65_code
def y_MA_max : MethodName := ⟨"java/lang/Math", "max", "(II)I"⟩
abbrev b_MA_min : ByteArray := prog_14_method_69_code
def y_MA_min : MethodName := ⟨"java/lang/Math", "min", "(II)I"⟩
abbrev b_AR_fill : ByteArray := prog_18_method_103_code
def y_AR_fill : MethodName := ⟨"java/util/Arrays", "fill", "([II)V"⟩
end
section
/-! Ints by their values: iI z is the Java int of value z (mod 2^32). -/
def iI (z : Int) : Int32 := Int32.ofInt z
theorem iI_add (a b : Int) : iI a + iI b = iI (a + b) := (Int32.ofInt_add a b).symm
theorem iI_sub (a b : Int) : iI a - iI b = iI (a - b) := (Int32.ofInt_sub a b).symm
theorem iI_mul (a b : Int) : iI a * iI b = iI (a * b) := (Int32.ofInt_mul a b).symm
theorem iI_neg (a : Int) : -iI a = iI (-a) := (Int32.ofInt_neg a).symm
theorem iI_self (x : Int32) : iI x.toInt = x := Int32.ofInt_toInt x
theorem iI_toInt {z : Int} (h1 : -2147483648 ≤ z) (h2 : z < 2147483648) : (iI z).toInt = z := Int32.toInt_ofInt_of_le (by omega) (by omega)
theorem iI_lo (x : Int32) : -2147483648 ≤ x.toInt := by have := Int32.le_toInt x; omega
theorem iI_hi (x : Int32) : x.toInt < 2147483648 := by have := Int32.toInt_lt x; omega
theorem iI_lt {a b : Int} (a1 : -2147483648 ≤ a) (a2 : a < 2147483648) (b1 : -2147483648 ≤ b) (b2 : b < 2147483648) : iI a < iI b ↔ a < b := by
  rw [Int32.lt_iff_toInt_lt, iI_toInt a1 a2, iI_toInt b1 b2]
theorem iI_le {a b : Int} (a1 : -2147483648 ≤ a) (a2 : a < 2147483648) (b1 : -2147483648 ≤ b) (b2 : b < 2147483648) : iI a ≤ iI b ↔ a ≤ b := by
  rw [Int32.le_iff_toInt_le, iI_toInt a1 a2, iI_toInt b1 b2]
theorem iI_eq {a b : Int} (a1 : -2147483648 ≤ a) (a2 : a < 2147483648) (b1 : -2147483648 ≤ b) (b2 : b < 2147483648) : iI a = iI b ↔ a = b := by
  rw [← Int32.toInt_inj, iI_toInt a1 a2, iI_toInt b1 b2]
theorem iI_0 : iI 0 = 0 := by decide +kernel
theorem iI_nat (n : Nat) : iI (n : Int) = nI n := Int32.ofInt_eq_ofNat
theorem iI_cl {z : Int} (h0 : 0 ≤ z) (h2 : z < 2147483648) : (iI z).toNatClampNeg = z.toNat := by
  obtain ⟨n, rfl⟩ := Int.eq_ofNat_of_zero_le h0
  rw [iI_nat, nI_clamp (by omega)]
  rfl
theorem iI_in {z : Int} {N : Nat} (h0 : 0 ≤ z) (h : z < N) (hN : N < 2147483648) : vp_in (iI z) N := by
  obtain ⟨n, rfl⟩ := Int.eq_ofNat_of_zero_le h0
  rw [iI_nat]
  exact vp_in_nI (by omega) (by omega)
theorem iI_tdiv {a b : Int} (a1 : -2147483648 ≤ a) (a2 : a < 2147483648) (b1 : 0 < b) (b2 : b < 2147483648) : iI a / iI b = iI (a.tdiv b) :=
  (Int32.ofInt_tdiv (by rw [show Int32.minValue.toInt = -2147483648 from by decide +kernel]; omega) (by rw [show Int32.maxValue.toInt = 2147483647 from by decide +kernel]; omega) (by rw [show Int32.minValue.toInt = -2147483648 from by decide +kernel]; omega) (by rw [show Int32.maxValue.toInt = 2147483647 from by decide +kernel]; omega)).symm
theorem iI_ne0 {b : Int} (b1 : 0 < b) (b2 : b < 2147483648) : ¬ iI b = 0 := by
  rw [← iI_0, iI_eq (by omega) b2 (by omega) (by omega)]
  omega
end
section
/-- a field's link from the class 'own' (entry idx of its pool) to the field j of the class ci -/
def fl_ok (own : String) (idx ci j : Nat) : Prop := ∃ (C : String) (T : u_T) (N : Nat), classes[ci]? = some (C, T, N) ∧ j < N ∧ (∀ w ∈ u_ws C T N, w ∈ tb_l) ∧ (Cond.fieldLink own idx C (T j).2.1 (T j).2.2.1 ∈ tb_l ∨ ∃ host, Cond.fieldLinkNest own idx C (T j).2.1 (T j).2.2.1 host ∈ tb_l) ∧ (T j).1 = C
def fp_ok (own : String) (idx ci j : Nat) (ty : FieldType) : Prop := ∃ (C : String) (T : u_T) (N : Nat) (t : Nat → FieldType), classes[ci]? = some (C, T, N) ∧ j < N ∧ (∀ w ∈ u_ws C T N, w ∈ tb_l) ∧ (Cond.fieldLink own idx C (T j).2.1 (T j).2.2.1 ∈ tb_l ∨ ∃ host, Cond.fieldLinkNest own idx C (T j).2.1 (T j).2.2.1 host ∈ tb_l) ∧ (T j).1 = C ∧ (T j).2.2.2 = false ∧ (∀ k, k < N → parseFieldDescriptor (T k).2.2.1 = some (t k)) ∧ (∀ a, a < N → ∀ b, b < N → a ≠ b → (T a).2.1 ≠ (T b).2.1) ∧ t j = ty
def fF_ok (own : String) (idx ci j : Nat) (ty : FieldType) : Prop := ∃ (C : String) (T : u_T) (N : Nat) (t : Nat → FieldType), classes[ci]? = some (C, T, N) ∧ j < N ∧ (∀ w ∈ u_ws C T N, w ∈ tb_l) ∧ (Cond.fieldLink own idx C (T j).2.1 (T j).2.2.1 ∈ tb_l) ∧ (T j).1 = C ∧ (T j).2.2.2 = true ∧ (∀ k, k < N → parseFieldDescriptor (T k).2.2.1 = some (t k)) ∧ (∀ a, a < N → ∀ b, b < N → a ≠ b → (T a).2.1 ≠ (T b).2.1) ∧ t j = ty ∧ (T j).1 = own
theorem zz_eq {a : Int} (a1 : -2147483648 ≤ a) (a2 : a < 2147483648) : iI a = 0 ↔ a = 0 := by
  rw [← iI_0, iI_eq a1 a2 (by omega) (by omega)]
theorem zz_lt {a : Int} (a1 : -2147483648 ≤ a) (a2 : a < 2147483648) : iI a < 0 ↔ a < 0 := by
  rw [← iI_0, iI_lt a1 a2 (by omega) (by omega)]
theorem zz_ge {a : Int} (a1 : -2147483648 ≤ a) (a2 : a < 2147483648) : 0 ≤ iI a ↔ 0 ≤ a := by
  rw [← iI_0, iI_le (by omega) (by omega) a1 a2]
theorem zz_gt {a : Int} (a1 : -2147483648 ≤ a) (a2 : a < 2147483648) : 0 < iI a ↔ 0 < a := by
  rw [← iI_0, iI_lt (by omega) (by omega) a1 a2]
theorem zz_le {a : Int} (a1 : -2147483648 ≤ a) (a2 : a < 2147483648) : iI a ≤ 0 ↔ a ≤ 0 := by
  rw [← iI_0, iI_le a1 a2 (by omega) (by omega)]
/-! VV: what a walk of one method has to show at a point: the picture of the cells 'ws', of the locals 'lv', the operand stack 'st', the pc. -/
abbrev cx_T : Type := Program × Launch × Env × State × MethodId × Array Value × List Frame × Method × Code × va_G × (Nat → Prop) × (Nat → Prop)
abbrev cx_p (X : cx_T) : Program := X.1
abbrev cx_l (X : cx_T) : Launch := X.2.1
abbrev cx_e (X : cx_T) : Env := X.2.2.1
abbrev cx_s (X : cx_T) : State := X.2.2.2.1
abbrev cx_m (X : cx_T) : MethodId := X.2.2.2.2.1
abbrev cx_a (X : cx_T) : Array Value := X.2.2.2.2.2.1
abbrev cx_b (X : cx_T) : List Frame := X.2.2.2.2.2.2.1
abbrev cx_M (X : cx_T) : Method := X.2.2.2.2.2.2.2.1
abbrev cx_c (X : cx_T) : Code := X.2.2.2.2.2.2.2.2.1
abbrev cx_D (X : cx_T) : va_G := X.2.2.2.2.2.2.2.2.2.1
abbrev cx_A (X : cx_T) : Nat → Prop := X.2.2.2.2.2.2.2.2.2.2.1
abbrev cx_B (X : cx_T) : Nat → Prop := X.2.2.2.2.2.2.2.2.2.2.2
/-- the picture's cells may be written -/
def cx_w (X : cx_T) : Prop := ∀ q, cx_B X q → cx_A X q
/-- a method's bytes, its number of locals, its class, its room -/
abbrev ms_T : Type := ByteArray × Nat × String × Room
def cx_ok (X : cx_T) (M : ms_T) : Prop := (cx_p X).tables.exec = Jvm.exec ∧ (cx_c X).code = M.1 ∧ (cx_c X).maxLocals = M.2.1 ∧ (cx_s X).vm.findClass M.2.2.1 = some (cx_m X).cls ∧ tb_ok (cx_s X) ∧ (∀ q, (cx_s X).heap.size ≤ q → cx_A X q ∧ cx_B X q) ∧ (cx_M X).locks = false
def lo_has (ls : Array Slot) (nL : Nat) (lv : List (Option Value)) : Prop := ls.size = nL ∧ lv_wf ls ∧ ∀ (i : Nat) (v : Value), lv[i]? = some (some v) → ls[i]? = some (.val v)
def lo_l (lv : List (Option Value)) : List (Nat × Value) := (List.range lv.length).filterMap (fun i => match lv[i]? with | some (some v) => some (i, v) | _ => none)
theorem lo_mem {lv : List (Option Value)} {i : Nat} {v : Value} : (i, v) ∈ lo_l lv ↔ lv[i]? = some (some v) := by
  unfold lo_l
  rw [List.mem_filterMap]
  constructor
  · rintro ⟨j, -, h⟩
    split at h
    · rename_i w hw
      have := Option.some.inj h
      cases this
      exact hw
    · cases h
  · intro h
    refine ⟨i, List.mem_range.mpr (List.getElem?_eq_some_iff.mp h).1, ?_⟩
    rw [h]
theorem lo_to {ls : Array Slot} {nL : Nat} {lv : List (Option Value)} (h : lo_has ls nL lv) : lv_has ls nL (lo_l lv) := ⟨h.1, h.2.1, fun q hq => h.2.2 q.1 q.2 (lo_mem.mp hq)⟩
/-- the place before is no long -/
def lo_ok (lv : List (Option Value)) (i : Nat) : Bool := match i with
  | 0 => true
  | j + 1 => match lv[j]? with
    | some (some v) => v.category == 1
    | _ => true
theorem lo_set {ls' : Array Slot} {nL i : Nat} {v : Value} {lv : List (Option Value)} (ho : lo_ok lv i = true) (h : lv_has ls' nL ((i, v) :: (lo_l lv).filter (fun q => !(q.1 == i) && !(q.1 + 1 == i && q.2.category == 2)))) : lo_has ls' nL (lv.set i (some v)) := by
  refine ⟨h.1, h.2.1, fun j w hj => ?_⟩
  by_cases hji : j = i
  · subst hji
    have hl : j < (lv.set j (some v)).length := (List.getElem?_eq_some_iff.mp hj).1
    rw [List.getElem?_set_self (by simpa using hl)] at hj
    have e1 : v = w := Option.some.inj (Option.some.inj hj)
    subst e1
    exact h.2.2 (j, v) List.mem_cons_self
  · rw [List.getElem?_set_ne (Ne.symm hji)] at hj
    refine h.2.2 (j, w) (List.mem_cons_of_mem _ (List.mem_filter.mpr ⟨lo_mem.mpr hj, ?_⟩))
    have hc : ¬ (j + 1 = i ∧ w.category = 2) := by
      rintro ⟨e1, e2⟩
      subst e1
      simp only [lo_ok, hj] at ho
      rw [e2] at ho
      exact absurd ho (by decide)
    simp [hji]
    by_cases e1 : j + 1 = i
    · exact Or.inr (fun e2 => hc ⟨e1, e2⟩)
    · exact Or.inl e1
theorem lo_set2 {ls' : Array Slot} {nL i : Nat} {v : Value} {lv : List (Option Value)} (ho : lo_ok lv i = true) (h : lv_has ls' nL ((i, v) :: (lo_l lv).filter (fun q => !(q.1 == i) && (!(q.1 == i + 1) && !(q.1 + 1 == i && q.2.category == 2))))) : lo_has ls' nL ((lv.set (i + 1) none).set i (some v)) := by
  refine ⟨h.1, h.2.1, fun j w hj => ?_⟩
  by_cases hji : j = i
  · subst hji
    have hl : j < ((lv.set (j + 1) none).set j (some v)).length := (List.getElem?_eq_some_iff.mp hj).1
    rw [List.getElem?_set_self (by simpa using hl)] at hj
    have e1 : v = w := Option.some.inj (Option.some.inj hj)
    subst e1
    exact h.2.2 (j, v) List.mem_cons_self
  · rw [List.getElem?_set_ne (Ne.symm hji)] at hj
    by_cases hj1 : j = i + 1
    · subst hj1
      have hl : i + 1 < (lv.set (i + 1) none).length := (List.getElem?_eq_some_iff.mp hj).1
      rw [List.getElem?_set_self (by simpa using hl)] at hj
      cases hj
    · rw [List.getElem?_set_ne (Ne.symm hj1)] at hj
      refine h.2.2 (j, w) (List.mem_cons_of_mem _ (List.mem_filter.mpr ⟨lo_mem.mpr hj, ?_⟩))
      have hc : ¬ (j + 1 = i ∧ w.category = 2) := by
        rintro ⟨e1, e2⟩
        subst e1
        simp only [lo_ok, hj] at ho
        rw [e2] at ho
        exact absurd ho (by decide)
      simp [hji, hj1]
      by_cases e1 : j + 1 = i
      · exact Or.inr (fun e2 => hc ⟨e1, e2⟩)
      · exact Or.inl e1
/-- fewer locals known -/
def lo_le (a b : List (Option Value)) : Prop := ∀ (i : Nat) (v : Value), a[i]? = some (some v) → b[i]? = some (some v)
theorem lo_le_nil (b : List (Option Value)) : lo_le [] b := fun i v h => by simp at h
theorem lo_le_cons {a b : List (Option Value)} (x : Option Value) (h : lo_le a b) : lo_le (x :: a) (x :: b) := fun i v hi => by
  cases i with
  | zero => exact hi
  | succ j => exact h j v hi
theorem lo_le_none {a b : List (Option Value)} (x : Option Value) (h : lo_le a b) : lo_le (none :: a) (x :: b) := fun i v hi => by
  cases i with
  | zero => cases hi
  | succ j => exact h j v hi
def lo_mask : List Bool → List (Option Value) → List (Option Value)
  | b :: bs, v :: vs => (if b then v else none) :: lo_mask bs vs
  | _, _ => []
theorem lo_mask_le : ∀ (bs : List Bool) (vs : List (Option Value)), lo_le (lo_mask bs vs) vs
  | [], vs => lo_le_nil _
  | b :: bs, [] => lo_le_nil _
  | b :: bs, v :: vs => by
    cases b
    · exact lo_le_none v (lo_mask_le bs vs)
    · exact lo_le_cons v (lo_mask_le bs vs)
def VV (X : cx_T) (M : ms_T) (Q : State → Prop) (k n : Nat) (tys : List (ClassId × FieldType)) (ws pl : va_W) (lv : List (Option Value)) (st : List Value) (pc : Nat) : Prop :=
  cx_ok X M → ∀ (H : Heap) (locs : List Loc) (ls : Array Slot), va_K (cx_D X) classes tys (cx_s X) → va_P (cx_D X) classes (ws ++ pl) H → va_D (cx_B X) (ws ++ pl) → va_S (cx_A X) (cx_s X).heap H locs → lo_has ls M.2.1 lv →
    W (cx_p X) (cx_l X) (cx_e X) M.2.2.2 (cx_s X) (cx_m X) (cx_a X) (cx_b X) (cx_M X) (cx_c X) H locs k n Q (F0 (cx_m X) pc ls st)
section VV
variable {X : cx_T} {M : ms_T} {Q : State → Prop} {k n : Nat} {tys : List (ClassId × FieldType)} {ws pl : va_W} {lv : List (Option Value)} {st : List Value} {pc : Nat}
theorem vv_mask (bs : List Bool) (kk : VV X M Q k n tys ws pl (lo_mask bs lv) st pc) : VV X M Q k n tys ws pl lv st pc := fun C H locs ls hK hP hD hS hl => kk C H locs ls hK hP hD hS ⟨hl.1, hl.2.1, fun i v h => hl.2.2 i v (lo_mask_le bs lv i v h)⟩
theorem vv_le {lv' : List (Option Value)} (hle : lo_le lv' lv) (kk : VV X M Q k n tys ws pl lv' st pc) : VV X M Q k n tys ws pl lv st pc := fun C H locs ls hK hP hD hS hl => kk C H locs ls hK hP hD hS ⟨hl.1, hl.2.1, fun i v h => hl.2.2 i v (hle i v h)⟩
theorem vv_widen {k' n' : Nat} (h1 : k ≤ k') (h2 : n ≤ n') (kk : VV X M Q k' n' tys ws pl lv st pc) : VV X M Q k n tys ws pl lv st pc := fun C H locs ls hK hP hD hS hl => W.widen h1 h2 (kk C H locs ls hK hP hD hS hl)
theorem vv_sub {ws' : va_W} (is : List Nat) (hn : va_nd is = true) (hs : is.map (fun i => ws[i]?) = ws'.map some) (kk : VV X M Q k n tys ws' pl lv st pc) : VV X M Q k n tys ws pl lv st pc := fun C H locs ls hK hP hD hS hl => kk C H locs ls hK (hP.part is hs) (hD.part is hn hs) hS hl
theorem vv_tys {tys' : List (ClassId × FieldType)} (is : List Nat) (hs : is.filterMap (fun i => tys[i]?) = tys') (kk : VV X M Q k n tys' ws pl lv st pc) : VV X M Q k n tys ws pl lv st pc := fun C H locs ls hK hP hD hS hl => kk C H locs ls (hK.sub is hs) hP hD hS hl

theorem vv_iconst {z : Int} (hd : decode M.1 pc = .ok (.iconst z, 1)) (kk : VV X M Q k n tys ws pl lv (.int (iI z) :: st) (pc + 1)) : VV X M Q k n tys ws pl lv (st) pc := fun C H locs ls hK hP hD hS hl => lv_iconst C.1 C.2.1 hd rfl (kk C H locs ls hK hP hD hS hl)
theorem vv_bipush {z : Int} (hd : decode M.1 pc = .ok (.bipush z, 2)) (hz : (Int8.ofInt z).toInt32 = iI z) (kk : VV X M Q k n tys ws pl lv (.int (iI z) :: st) (pc + 2)) : VV X M Q k n tys ws pl lv (st) pc := fun C H locs ls hK hP hD hS hl => lv_bipush C.1 C.2.1 hd hz (kk C H locs ls hK hP hD hS hl)
theorem vv_sipush {z : Int} (hd : decode M.1 pc = .ok (.sipush z, 3)) (hz : (Int16.ofInt z).toInt32 = iI z) (kk : VV X M Q k n tys ws pl lv (.int (iI z) :: st) (pc + 3)) : VV X M Q k n tys ws pl lv (st) pc := fun C H locs ls hK hP hD hS hl => lv_sipush C.1 C.2.1 hd hz (kk C H locs ls hK hP hD hS hl)
theorem vv_null (hd : decode M.1 pc = .ok (.aconst_null, 1)) (kk : VV X M Q k n tys ws pl lv (.null :: st) (pc + 1)) : VV X M Q k n tys ws pl lv (st) pc := fun C H locs ls hK hP hD hS hl => lv_null C.1 C.2.1 hd (kk C H locs ls hK hP hD hS hl)
theorem vv_iload_n {j : Fin 4} {x : Int32} (hd : decode M.1 pc = .ok (.iload_n j, 1)) (hv : lv[(j : Nat)]? = some (some (.int x))) (kk : VV X M Q k n tys ws pl lv (.int x :: st) (pc + 1)) : VV X M Q k n tys ws pl lv (st) pc := fun C H locs ls hK hP hD hS hl => lv_iload_n C.1 C.2.1 hd rfl (hl.2.2 _ _ hv) (kk C H locs ls hK hP hD hS hl)
theorem vv_iload {j : Nat} {x : Int32} (hd : decode M.1 pc = .ok (.iload j, 2)) (hv : lv[j]? = some (some (.int x))) (kk : VV X M Q k n tys ws pl lv (.int x :: st) (pc + 2)) : VV X M Q k n tys ws pl lv (st) pc := fun C H locs ls hK hP hD hS hl => lv_iload C.1 C.2.1 hd (hl.2.2 _ _ hv) (kk C H locs ls hK hP hD hS hl)
theorem vv_aload_n {j : Fin 4} {x : Nat} (hd : decode M.1 pc = .ok (.aload_n j, 1)) (hv : lv[(j : Nat)]? = some (some (.ref x))) (kk : VV X M Q k n tys ws pl lv (.ref x :: st) (pc + 1)) : VV X M Q k n tys ws pl lv (st) pc := fun C H locs ls hK hP hD hS hl => lv_aload_n C.1 C.2.1 hd rfl (hl.2.2 _ _ hv) (kk C H locs ls hK hP hD hS hl)
theorem vv_aload {j : Nat} {x : Nat} (hd : decode M.1 pc = .ok (.aload j, 2)) (hv : lv[j]? = some (some (.ref x))) (kk : VV X M Q k n tys ws pl lv (.ref x :: st) (pc + 2)) : VV X M Q k n tys ws pl lv (st) pc := fun C H locs ls hK hP hD hS hl => lv_aload C.1 C.2.1 hd (hl.2.2 _ _ hv) (kk C H locs ls hK hP hD hS hl)
theorem vv_lload_n {j : Fin 4} {x : Int64} (hd : decode M.1 pc = .ok (.lload_n j, 1)) (hv : lv[(j : Nat)]? = some (some (.long x))) (kk : VV X M Q k n tys ws pl lv (.long x :: st) (pc + 1)) : VV X M Q k n tys ws pl lv (st) pc := fun C H locs ls hK hP hD hS hl => lv_lload_n C.1 C.2.1 hd rfl (hl.2.2 _ _ hv) (kk C H locs ls hK hP hD hS hl)
theorem vv_lload {j : Nat} {x : Int64} (hd : decode M.1 pc = .ok (.lload j, 2)) (hv : lv[j]? = some (some (.long x))) (kk : VV X M Q k n tys ws pl lv (.long x :: st) (pc + 2)) : VV X M Q k n tys ws pl lv (st) pc := fun C H locs ls hK hP hD hS hl => lv_lload C.1 C.2.1 hd (hl.2.2 _ _ hv) (kk C H locs ls hK hP hD hS hl)
theorem vv_istore_n {j : Fin 4} {x : Int32} (hd : decode M.1 pc = .ok (.istore_n j, 1)) (ho : lo_ok lv (j : Nat) = true) (hn : (j : Nat) < M.2.1) (kk : VV X M Q k n tys ws pl (lv.set (j : Nat) (some (.int x))) st (pc + 1)) : VV X M Q k n tys ws pl lv (.int x :: st) pc := fun C H locs ls hK hP hD hS hl => lv_istore_n C.1 C.2.1 hd rfl (lo_to hl) hn rfl (fun ls' h' => kk C H locs ls' hK hP hD hS (lo_set ho h'))
theorem vv_istore {j : Nat} {x : Int32} (hd : decode M.1 pc = .ok (.istore j, 2)) (ho : lo_ok lv j = true) (hn : j < M.2.1) (kk : VV X M Q k n tys ws pl (lv.set j (some (.int x))) st (pc + 2)) : VV X M Q k n tys ws pl lv (.int x :: st) pc := fun C H locs ls hK hP hD hS hl => lv_istore C.1 C.2.1 hd (lo_to hl) hn rfl (fun ls' h' => kk C H locs ls' hK hP hD hS (lo_set ho h'))
theorem vv_astore_n {j : Fin 4} {x : Nat} (hd : decode M.1 pc = .ok (.astore_n j, 1)) (ho : lo_ok lv (j : Nat) = true) (hn : (j : Nat) < M.2.1) (kk : VV X M Q k n tys ws pl (lv.set (j : Nat) (some (.ref x))) st (pc + 1)) : VV X M Q k n tys ws pl lv (.ref x :: st) pc := fun C H locs ls hK hP hD hS hl => lv_astore_n C.1 C.2.1 hd rfl (lo_to hl) hn rfl (fun ls' h' => kk C H locs ls' hK hP hD hS (lo_set ho h'))
theorem vv_astore {j : Nat} {x : Nat} (hd : decode M.1 pc = .ok (.astore j, 2)) (ho : lo_ok lv j = true) (hn : j < M.2.1) (kk : VV X M Q k n tys ws pl (lv.set j (some (.ref x))) st (pc + 2)) : VV X M Q k n tys ws pl lv (.ref x :: st) pc := fun C H locs ls hK hP hD hS hl => lv_astore C.1 C.2.1 hd (lo_to hl) hn rfl (fun ls' h' => kk C H locs ls' hK hP hD hS (lo_set ho h'))
theorem vv_lstore_n {j : Fin 4} {x : Int64} (hd : decode M.1 pc = .ok (.lstore_n j, 1)) (ho : lo_ok lv (j : Nat) = true) (hn : (j : Nat) + 1 < M.2.1) (kk : VV X M Q k n tys ws pl ((lv.set ((j : Nat) + 1) none).set (j : Nat) (some (.long x))) st (pc + 1)) : VV X M Q k n tys ws pl lv (.long x :: st) pc := fun C H locs ls hK hP hD hS hl => lv_lstore_n C.1 C.2.1 hd rfl (lo_to hl) hn rfl (fun ls' h' => kk C H locs ls' hK hP hD hS (lo_set2 ho h'))
theorem vv_lstore {j : Nat} {x : Int64} (hd : decode M.1 pc = .ok (.lstore j, 2)) (ho : lo_ok lv j = true) (hn : j + 1 < M.2.1) (kk : VV X M Q k n tys ws pl ((lv.set (j + 1) none).set j (some (.long x))) st (pc + 2)) : VV X M Q k n tys ws pl lv (.long x :: st) pc := fun C H locs ls hK hP hD hS hl => lv_lstore C.1 C.2.1 hd (lo_to hl) hn rfl (fun ls' h' => kk C H locs ls' hK hP hD hS (lo_set2 ho h'))
theorem vv_iinc {j : Nat} {z a : Int} (hd : decode M.1 pc = .ok (.iinc j z, 3)) (hv : lv[j]? = some (some (.int (iI a)))) (ho : lo_ok lv j = true) (hn : j < M.2.1) (kk : VV X M Q k n tys ws pl (lv.set j (some (.int (iI (a + z))))) st (pc + 3)) : VV X M Q k n tys ws pl lv st pc := fun C H locs ls hK hP hD hS hl => by
  obtain ⟨i0, h0⟩ := List.getElem?_of_mem (lo_mem.mpr hv)
  exact lv_iinc C.1 C.2.1 hd (lo_to hl) h0 (iI_add a z) hn rfl (fun ls' h' => kk C H locs ls' hK hP hD hS (lo_set ho h'))
theorem vv_iadd {a b : Int} (hd : decode M.1 pc = .ok (.iadd, 1)) (kk : VV X M Q k n tys ws pl lv (.int (iI (a + b)) :: st) (pc + 1)) : VV X M Q k n tys ws pl lv (.int (iI b) :: .int (iI a) :: st) pc := fun C H locs ls hK hP hD hS hl => lv_iadd C.1 C.2.1 hd (by rw [iI_add]; exact kk C H locs ls hK hP hD hS hl)
theorem vv_isub {a b : Int} (hd : decode M.1 pc = .ok (.isub, 1)) (kk : VV X M Q k n tys ws pl lv (.int (iI (a - b)) :: st) (pc + 1)) : VV X M Q k n tys ws pl lv (.int (iI b) :: .int (iI a) :: st) pc := fun C H locs ls hK hP hD hS hl => lv_isub C.1 C.2.1 hd (by rw [iI_sub]; exact kk C H locs ls hK hP hD hS hl)
theorem vv_imul {a b : Int} (hd : decode M.1 pc = .ok (.imul, 1)) (kk : VV X M Q k n tys ws pl lv (.int (iI (a * b)) :: st) (pc + 1)) : VV X M Q k n tys ws pl lv (.int (iI b) :: .int (iI a) :: st) pc := fun C H locs ls hK hP hD hS hl => lv_imul C.1 C.2.1 hd (by rw [iI_mul]; exact kk C H locs ls hK hP hD hS hl)
theorem vv_idiv {a b : Int} (hd : decode M.1 pc = .ok (.idiv, 1)) (h : (-2147483648 ≤ a ∧ a < 2147483648) ∧ 0 < b ∧ b < 2147483648) (kk : VV X M Q k n tys ws pl lv (.int (iI (a.tdiv b)) :: st) (pc + 1)) : VV X M Q k n tys ws pl lv (.int (iI b) :: .int (iI a) :: st) pc := fun C H locs ls hK hP hD hS hl => lv_idiv C.1 C.2.1 hd (iI_ne0 h.2.1 h.2.2) (by rw [iI_tdiv h.1.1 h.1.2 h.2.1 h.2.2]; exact kk C H locs ls hK hP hD hS hl)
theorem vv_iand {x y v : Int32} (hd : decode M.1 pc = .ok (.iand, 1)) (hv : x &&& y = v) (kk : VV X M Q k n tys ws pl lv (.int v :: st) (pc + 1)) : VV X M Q k n tys ws pl lv (.int y :: .int x :: st) pc := fun C H locs ls hK hP hD hS hl => lv_iand C.1 C.2.1 hd (by rw [hv]; exact kk C H locs ls hK hP hD hS hl)
theorem vv_ior {x y v : Int32} (hd : decode M.1 pc = .ok (.ior, 1)) (hv : x ||| y = v) (kk : VV X M Q k n tys ws pl lv (.int v :: st) (pc + 1)) : VV X M Q k n tys ws pl lv (.int y :: .int x :: st) pc := fun C H locs ls hK hP hD hS hl => lv_ior C.1 C.2.1 hd (by rw [hv]; exact kk C H locs ls hK hP hD hS hl)
theorem vv_ixor {x y v : Int32} (hd : decode M.1 pc = .ok (.ixor, 1)) (hv : x ^^^ y = v) (kk : VV X M Q k n tys ws pl lv (.int v :: st) (pc + 1)) : VV X M Q k n tys ws pl lv (.int y :: .int x :: st) pc := fun C H locs ls hK hP hD hS hl => lv_ixor C.1 C.2.1 hd (by rw [hv]; exact kk C H locs ls hK hP hD hS hl)
theorem vv_ishl {x y v : Int32} (hd : decode M.1 pc = .ok (.ishl, 1)) (hv : x <<< (y &&& 31) = v) (kk : VV X M Q k n tys ws pl lv (.int v :: st) (pc + 1)) : VV X M Q k n tys ws pl lv (.int y :: .int x :: st) pc := fun C H locs ls hK hP hD hS hl => lv_ishl C.1 C.2.1 hd (by rw [hv]; exact kk C H locs ls hK hP hD hS hl)
theorem vv_ishr {x y v : Int32} (hd : decode M.1 pc = .ok (.ishr, 1)) (hv : x >>> (y &&& 31) = v) (kk : VV X M Q k n tys ws pl lv (.int v :: st) (pc + 1)) : VV X M Q k n tys ws pl lv (.int y :: .int x :: st) pc := fun C H locs ls hK hP hD hS hl => lv_ishr C.1 C.2.1 hd (by rw [hv]; exact kk C H locs ls hK hP hD hS hl)
theorem vv_i2l {x : Int32} {v : Int64} (hd : decode M.1 pc = .ok (.i2l, 1)) (hv : x.toInt64 = v) (kk : VV X M Q k n tys ws pl lv (.long v :: st) (pc + 1)) : VV X M Q k n tys ws pl lv (.int x :: st) pc := fun C H locs ls hK hP hD hS hl => lv_i2l C.1 C.2.1 hd hv (kk C H locs ls hK hP hD hS hl)
theorem vv_ladd {x y v : Int64} (hd : decode M.1 pc = .ok (.ladd, 1)) (hv : x + y = v) (kk : VV X M Q k n tys ws pl lv (.long v :: st) (pc + 1)) : VV X M Q k n tys ws pl lv (.long y :: .long x :: st) pc := fun C H locs ls hK hP hD hS hl => lv_ladd C.1 C.2.1 hd (by rw [hv]; exact kk C H locs ls hK hP hD hS hl)
theorem vv_lsub {x y v : Int64} (hd : decode M.1 pc = .ok (.lsub, 1)) (hv : x - y = v) (kk : VV X M Q k n tys ws pl lv (.long v :: st) (pc + 1)) : VV X M Q k n tys ws pl lv (.long y :: .long x :: st) pc := fun C H locs ls hK hP hD hS hl => lv_lsub C.1 C.2.1 hd (by rw [hv]; exact kk C H locs ls hK hP hD hS hl)
theorem vv_lmul {x y v : Int64} (hd : decode M.1 pc = .ok (.lmul, 1)) (hv : x * y = v) (kk : VV X M Q k n tys ws pl lv (.long v :: st) (pc + 1)) : VV X M Q k n tys ws pl lv (.long y :: .long x :: st) pc := fun C H locs ls hK hP hD hS hl => lv_lmul C.1 C.2.1 hd (by rw [hv]; exact kk C H locs ls hK hP hD hS hl)
theorem vv_lconst {z : Fin 2} {v : Int64} (hd : decode M.1 pc = .ok (.lconst z, 1)) (hv : Int64.ofNat (z : Nat) = v) (kk : VV X M Q k n tys ws pl lv (.long v :: st) (pc + 1)) : VV X M Q k n tys ws pl lv (st) pc := fun C H locs ls hK hP hD hS hl => lv_lconst C.1 C.2.1 hd hv (kk C H locs ls hK hP hD hS hl)
theorem vv_lcmp {x y : Int64} {v : Int32} (hd : decode M.1 pc = .ok (.lcmp, 1)) (hv : lg_cmp x y = v) (kk : VV X M Q k n tys ws pl lv (.int v :: st) (pc + 1)) : VV X M Q k n tys ws pl lv (.long y :: .long x :: st) pc := fun C H locs ls hK hP hD hS hl => W.lcmp C.1 C.2.1 hd (by rw [hv]; exact kk C H locs ls hK hP hD hS hl)
theorem vv_dup {u : Value} (hd : decode M.1 pc = .ok (.dup, 1)) (hu : u.category = 1) (kk : VV X M Q k n tys ws pl lv (u :: u :: st) (pc + 1)) : VV X M Q k n tys ws pl lv (u :: st) pc := fun C H locs ls hK hP hD hS hl => lv_dup C.1 C.2.1 hd hu (kk C H locs ls hK hP hD hS hl)
theorem vv_pop {u : Value} (hd : decode M.1 pc = .ok (.pop, 1)) (hu : u.category = 1) (kk : VV X M Q k n tys ws pl lv (st) (pc + 1)) : VV X M Q k n tys ws pl lv (u :: st) pc := fun C H locs ls hK hP hD hS hl => lv_pop C.1 C.2.1 hd hu (kk C H locs ls hK hP hD hS hl)
theorem vv_dup_x1 {u w : Value} (hd : decode M.1 pc = .ok (.dup_x1, 1)) (hu : u.category = 1) (hw : w.category = 1) (kk : VV X M Q k n tys ws pl lv (u :: w :: u :: st) (pc + 1)) : VV X M Q k n tys ws pl lv (u :: w :: st) pc := fun C H locs ls hK hP hD hS hl => lv_dup_x1 C.1 C.2.1 hd hu hw (kk C H locs ls hK hP hD hS hl)
theorem vv_dup_x2 {u w z : Value} (hd : decode M.1 pc = .ok (.dup_x2, 1)) (hu : u.category = 1) (hw : w.category = 1) (hz : z.category = 1) (kk : VV X M Q k n tys ws pl lv (u :: w :: z :: u :: st) (pc + 1)) : VV X M Q k n tys ws pl lv (u :: w :: z :: st) pc := fun C H locs ls hK hP hD hS hl => lv_dup_x2 C.1 C.2.1 hd hu hw hz (kk C H locs ls hK hP hD hS hl)
theorem vv_dup2 {u w : Value} (hd : decode M.1 pc = .ok (.dup2, 1)) (hu : u.category = 1) (hw : w.category = 1) (kk : VV X M Q k n tys ws pl lv (u :: w :: u :: w :: st) (pc + 1)) : VV X M Q k n tys ws pl lv (u :: w :: st) pc := fun C H locs ls hK hP hD hS hl => lv_dup2_11 C.1 C.2.1 hd hu hw (kk C H locs ls hK hP hD hS hl)
theorem vv_goto {off : Int} {tgt : Nat} (hd : decode M.1 pc = .ok (.goto off, 3)) (ht : (pc : Int) + off = (tgt : Int)) (kk : VV X M Q k n tys ws pl lv st tgt) : VV X M Q k n tys ws pl lv st pc := fun C H locs ls hK hP hD hS hl => lv_goto C.1 C.2.1 hd ht (kk C H locs ls hK hP hD hS hl)
theorem vv_icmp_eq {a b : Int} {off : Int} {tgt : Nat} (hd : decode M.1 pc = .ok (.if_icmp .eq off, 3)) (ht : (pc : Int) + off = (tgt : Int)) (h : (-2147483648 ≤ a ∧ a < 2147483648) ∧ -2147483648 ≤ b ∧ b < 2147483648) (kt : a = b → VV X M Q k n tys ws pl lv st tgt) (kf : ¬ a = b → VV X M Q k n tys ws pl lv st (pc + 3)) : VV X M Q k n tys ws pl lv (.int (iI b) :: .int (iI a) :: st) pc := fun C H locs ls hK hP hD hS hl => lv_icmp_eq C.1 C.2.1 hd ht (fun q => kt ((iI_eq h.1.1 h.1.2 h.2.1 h.2.2).mp q) C H locs ls hK hP hD hS hl) (fun q => kf (fun z => q ((iI_eq h.1.1 h.1.2 h.2.1 h.2.2).mpr z)) C H locs ls hK hP hD hS hl)
theorem vv_if_eq {a : Int} {off : Int} {tgt : Nat} (hd : decode M.1 pc = .ok (.ifCond .eq off, 3)) (ht : (pc : Int) + off = (tgt : Int)) (h : -2147483648 ≤ a ∧ a < 2147483648) (kt : a = 0 → VV X M Q k n tys ws pl lv st tgt) (kf : ¬ a = 0 → VV X M Q k n tys ws pl lv st (pc + 3)) : VV X M Q k n tys ws pl lv (.int (iI a) :: st) pc := fun C H locs ls hK hP hD hS hl => lv_if_eq C.1 C.2.1 hd ht (fun q => kt ((zz_eq h.1 h.2).mp q) C H locs ls hK hP hD hS hl) (fun q => kf (fun z => q ((zz_eq h.1 h.2).mpr z)) C H locs ls hK hP hD hS hl)
theorem vv_icmp_ne {a b : Int} {off : Int} {tgt : Nat} (hd : decode M.1 pc = .ok (.if_icmp .ne off, 3)) (ht : (pc : Int) + off = (tgt : Int)) (h : (-2147483648 ≤ a ∧ a < 2147483648) ∧ -2147483648 ≤ b ∧ b < 2147483648) (kt : ¬ a = b → VV X M Q k n tys ws pl lv st tgt) (kf : a = b → VV X M Q k n tys ws pl lv st (pc + 3)) : VV X M Q k n tys ws pl lv (.int (iI b) :: .int (iI a) :: st) pc := fun C H locs ls hK hP hD hS hl => lv_icmp_ne C.1 C.2.1 hd ht (fun q => kt (fun z => q ((iI_eq h.1.1 h.1.2 h.2.1 h.2.2).mpr z)) C H locs ls hK hP hD hS hl) (fun q => kf ((iI_eq h.1.1 h.1.2 h.2.1 h.2.2).mp q) C H locs ls hK hP hD hS hl)
theorem vv_if_ne {a : Int} {off : Int} {tgt : Nat} (hd : decode M.1 pc = .ok (.ifCond .ne off, 3)) (ht : (pc : Int) + off = (tgt : Int)) (h : -2147483648 ≤ a ∧ a < 2147483648) (kt : ¬ a = 0 → VV X M Q k n tys ws pl lv st tgt) (kf : a = 0 → VV X M Q k n tys ws pl lv st (pc + 3)) : VV X M Q k n tys ws pl lv (.int (iI a) :: st) pc := fun C H locs ls hK hP hD hS hl => lv_if_ne C.1 C.2.1 hd ht (fun q => kt (fun z => q ((zz_eq h.1 h.2).mpr z)) C H locs ls hK hP hD hS hl) (fun q => kf ((zz_eq h.1 h.2).mp q) C H locs ls hK hP hD hS hl)
theorem vv_icmp_lt {a b : Int} {off : Int} {tgt : Nat} (hd : decode M.1 pc = .ok (.if_icmp .lt off, 3)) (ht : (pc : Int) + off = (tgt : Int)) (h : (-2147483648 ≤ a ∧ a < 2147483648) ∧ -2147483648 ≤ b ∧ b < 2147483648) (kt : a < b → VV X M Q k n tys ws pl lv st tgt) (kf : ¬ a < b → VV X M Q k n tys ws pl lv st (pc + 3)) : VV X M Q k n tys ws pl lv (.int (iI b) :: .int (iI a) :: st) pc := fun C H locs ls hK hP hD hS hl => lv_icmp_lt C.1 C.2.1 hd ht (fun q => kt ((iI_lt h.1.1 h.1.2 h.2.1 h.2.2).mp q) C H locs ls hK hP hD hS hl) (fun q => kf (fun z => q ((iI_lt h.1.1 h.1.2 h.2.1 h.2.2).mpr z)) C H locs ls hK hP hD hS hl)
theorem vv_if_lt {a : Int} {off : Int} {tgt : Nat} (hd : decode M.1 pc = .ok (.ifCond .lt off, 3)) (ht : (pc : Int) + off = (tgt : Int)) (h : -2147483648 ≤ a ∧ a < 2147483648) (kt : a < 0 → VV X M Q k n tys ws pl lv st tgt) (kf : ¬ a < 0 → VV X M Q k n tys ws pl lv st (pc + 3)) : VV X M Q k n tys ws pl lv (.int (iI a) :: st) pc := fun C H locs ls hK hP hD hS hl => lv_if_lt C.1 C.2.1 hd ht (fun q => kt ((zz_lt h.1 h.2).mp q) C H locs ls hK hP hD hS hl) (fun q => kf (fun z => q ((zz_lt h.1 h.2).mpr z)) C H locs ls hK hP hD hS hl)
theorem vv_icmp_ge {a b : Int} {off : Int} {tgt : Nat} (hd : decode M.1 pc = .ok (.if_icmp .ge off, 3)) (ht : (pc : Int) + off = (tgt : Int)) (h : (-2147483648 ≤ a ∧ a < 2147483648) ∧ -2147483648 ≤ b ∧ b < 2147483648) (kt : b ≤ a → VV X M Q k n tys ws pl lv st tgt) (kf : ¬ b ≤ a → VV X M Q k n tys ws pl lv st (pc + 3)) : VV X M Q k n tys ws pl lv (.int (iI b) :: .int (iI a) :: st) pc := fun C H locs ls hK hP hD hS hl => lv_icmp_ge C.1 C.2.1 hd ht (fun q => kt ((iI_le h.2.1 h.2.2 h.1.1 h.1.2).mp q) C H locs ls hK hP hD hS hl) (fun q => kf (fun z => q ((iI_le h.2.1 h.2.2 h.1.1 h.1.2).mpr z)) C H locs ls hK hP hD hS hl)
theorem vv_if_ge {a : Int} {off : Int} {tgt : Nat} (hd : decode M.1 pc = .ok (.ifCond .ge off, 3)) (ht : (pc : Int) + off = (tgt : Int)) (h : -2147483648 ≤ a ∧ a < 2147483648) (kt : 0 ≤ a → VV X M Q k n tys ws pl lv st tgt) (kf : ¬ 0 ≤ a → VV X M Q k n tys ws pl lv st (pc + 3)) : VV X M Q k n tys ws pl lv (.int (iI a) :: st) pc := fun C H locs ls hK hP hD hS hl => lv_if_ge C.1 C.2.1 hd ht (fun q => kt ((zz_ge h.1 h.2).mp q) C H locs ls hK hP hD hS hl) (fun q => kf (fun z => q ((zz_ge h.1 h.2).mpr z)) C H locs ls hK hP hD hS hl)
theorem vv_icmp_gt {a b : Int} {off : Int} {tgt : Nat} (hd : decode M.1 pc = .ok (.if_icmp .gt off, 3)) (ht : (pc : Int) + off = (tgt : Int)) (h : (-2147483648 ≤ a ∧ a < 2147483648) ∧ -2147483648 ≤ b ∧ b < 2147483648) (kt : b < a → VV X M Q k n tys ws pl lv st tgt) (kf : ¬ b < a → VV X M Q k n tys ws pl lv st (pc + 3)) : VV X M Q k n tys ws pl lv (.int (iI b) :: .int (iI a) :: st) pc := fun C H locs ls hK hP hD hS hl => lv_icmp_gt C.1 C.2.1 hd ht (fun q => kt ((iI_lt h.2.1 h.2.2 h.1.1 h.1.2).mp q) C H locs ls hK hP hD hS hl) (fun q => kf (fun z => q ((iI_lt h.2.1 h.2.2 h.1.1 h.1.2).mpr z)) C H locs ls hK hP hD hS hl)
theorem vv_if_gt {a : Int} {off : Int} {tgt : Nat} (hd : decode M.1 pc = .ok (.ifCond .gt off, 3)) (ht : (pc : Int) + off = (tgt : Int)) (h : -2147483648 ≤ a ∧ a < 2147483648) (kt : 0 < a → VV X M Q k n tys ws pl lv st tgt) (kf : ¬ 0 < a → VV X M Q k n tys ws pl lv st (pc + 3)) : VV X M Q k n tys ws pl lv (.int (iI a) :: st) pc := fun C H locs ls hK hP hD hS hl => lv_if_gt C.1 C.2.1 hd ht (fun q => kt ((zz_gt h.1 h.2).mp q) C H locs ls hK hP hD hS hl) (fun q => kf (fun z => q ((zz_gt h.1 h.2).mpr z)) C H locs ls hK hP hD hS hl)
theorem vv_icmp_le {a b : Int} {off : Int} {tgt : Nat} (hd : decode M.1 pc = .ok (.if_icmp .le off, 3)) (ht : (pc : Int) + off = (tgt : Int)) (h : (-2147483648 ≤ a ∧ a < 2147483648) ∧ -2147483648 ≤ b ∧ b < 2147483648) (kt : a ≤ b → VV X M Q k n tys ws pl lv st tgt) (kf : ¬ a ≤ b → VV X M Q k n tys ws pl lv st (pc + 3)) : VV X M Q k n tys ws pl lv (.int (iI b) :: .int (iI a) :: st) pc := fun C H locs ls hK hP hD hS hl => lv_icmp_le C.1 C.2.1 hd ht (fun q => kt ((iI_le h.1.1 h.1.2 h.2.1 h.2.2).mp q) C H locs ls hK hP hD hS hl) (fun q => kf (fun z => q ((iI_le h.1.1 h.1.2 h.2.1 h.2.2).mpr z)) C H locs ls hK hP hD hS hl)
theorem vv_if_le {a : Int} {off : Int} {tgt : Nat} (hd : decode M.1 pc = .ok (.ifCond .le off, 3)) (ht : (pc : Int) + off = (tgt : Int)) (h : -2147483648 ≤ a ∧ a < 2147483648) (kt : a ≤ 0 → VV X M Q k n tys ws pl lv st tgt) (kf : ¬ a ≤ 0 → VV X M Q k n tys ws pl lv st (pc + 3)) : VV X M Q k n tys ws pl lv (.int (iI a) :: st) pc := fun C H locs ls hK hP hD hS hl => lv_if_le C.1 C.2.1 hd ht (fun q => kt ((zz_le h.1 h.2).mp q) C H locs ls hK hP hD hS hl) (fun q => kf (fun z => q ((zz_le h.1 h.2).mpr z)) C H locs ls hK hP hD hS hl)
theorem vv_at {q0 : Nat} {x : Nat × va_E} (h : ws[q0]? = some x) : (ws ++ pl)[q0]? = some x := by
  rw [List.getElem?_append_left (List.getElem?_eq_some_iff.mp h).1]
  exact h
theorem vv_sets {q0 : Nat} {x y : Nat × va_E} (h : ws[q0]? = some x) : (ws ++ pl).set q0 y = ws.set q0 y ++ pl := List.set_append_left q0 y (List.getElem?_eq_some_iff.mp h).1
theorem vv_get {idx ci a j : Nat} {fs : List Value} {v : Value} (hd : decode M.1 pc = .ok (.getfield idx, 3)) (q0 : Nat) (he : ws[q0]? = some (a, .inr (ci, fs))) (hf : fl_ok M.2.2.1 idx ci j) (hv : fs[j]? = some v) (kk : VV X M Q k n tys ws pl lv (v :: st) (pc + 3)) : VV X M Q k n tys ws pl lv (.ref a :: st) pc := fun C H locs ls hK hP hD hS hl => by
  obtain ⟨Cn, T, N, h1, h2, h3, h4, h5⟩ := hf
  have hts : ∀ w ∈ tb_l, w.before (cx_a X) (cx_s X) = true := fun w hw => C.2.2.2.2.1 w hw _
  rcases h4 with h4 | ⟨host, h4⟩
  · exact va_get C.1 C.2.1 hts h3 C.2.2.2.1 hK hP q0 (vv_at he) h1 j h2 (hts _ h4) (fun x hx => by rw [h5] at hx; exact hx) hv hd (kk C H locs ls hK hP hD hS hl)
  · exact va_getN C.1 C.2.1 hts h3 C.2.2.2.1 hK hP q0 (vv_at he) h1 j h2 (hts _ h4) (fun x hx => by rw [h5] at hx; exact hx) hv hd (kk C H locs ls hK hP hD hS hl)
theorem vv_put (hw : cx_w X) {idx ci a j : Nat} {fs : List Value} {v : Value} {ty : FieldType} (hd : decode M.1 pc = .ok (.putfield idx, 3)) (q0 : Nat) (he : ws[q0]? = some (a, .inr (ci, fs))) (hf : fp_ok M.2.2.1 idx ci j ty) (hn : narrow ty v = v) (hfit : fits ty v = true) (hj : j < fs.length) (kk : VV X M Q k n tys (ws.set q0 (a, .inr (ci, fs.set j v))) pl lv st (pc + 3)) : VV X M Q k n tys ws pl lv (v :: .ref a :: st) pc := fun C H locs ls hK hP hD hS hl => by
  obtain ⟨Cn, T, N, t, h1, h2, h3, h4, h5, h6, h7, h8, h9⟩ := hf
  have hts : ∀ w ∈ tb_l, w.before (cx_a X) (cx_s X) = true := fun w hw => C.2.2.2.2.1 w hw _
  rcases h4 with h4 | ⟨host, h4⟩
  · exact va_put C.1 C.2.1 hts h3 t h7 h8 C.2.2.2.1 hK hP (hD.weaken (fun _ _ _ h => hw _ h)) hS q0 (vv_at he) h1 j h2 (hts _ h4) (fun x hx => by rw [h5] at hx; exact hx) h6 (by rw [h7 j h2, h9]) hn hfit hj hd (fun H1 locs1 hP1 hD1 hS1 => kk C H1 locs1 ls hK (by rw [← vv_sets he]; exact hP1) (by rw [← vv_sets he]; exact hD.set (vv_at he)) hS1 hl)
  · exact va_putN C.1 C.2.1 hts h3 t h7 h8 C.2.2.2.1 hK hP (hD.weaken (fun _ _ _ h => hw _ h)) hS q0 (vv_at he) h1 j h2 (hts _ h4) (fun x hx => by rw [h5] at hx; exact hx) h6 (by rw [h7 j h2, h9]) hn hfit hj hd (fun H1 locs1 hP1 hD1 hS1 => kk C H1 locs1 ls hK (by rw [← vv_sets he]; exact hP1) (by rw [← vv_sets he]; exact hD.set (vv_at he)) hS1 hl)
theorem vv_putF (hw : cx_w X) {idx ci a j : Nat} {fs : List Value} {v : Value} {ty : FieldType} (hin : (cx_M X).name = "<init>") (hd : decode M.1 pc = .ok (.putfield idx, 3)) (q0 : Nat) (he : ws[q0]? = some (a, .inr (ci, fs))) (hf : fF_ok M.2.2.1 idx ci j ty) (hn : narrow ty v = v) (hfit : fits ty v = true) (hj : j < fs.length) (kk : VV X M Q k n tys (ws.set q0 (a, .inr (ci, fs.set j v))) pl lv st (pc + 3)) : VV X M Q k n tys ws pl lv (v :: .ref a :: st) pc := fun C H locs ls hK hP hD hS hl => by
  obtain ⟨Cn, T, N, t, h1, h2, h3, h4, h5, h6, h7, h8, h9, h10⟩ := hf
  have hts : ∀ w ∈ tb_l, w.before (cx_a X) (cx_s X) = true := fun w hw => C.2.2.2.2.1 w hw _
  exact va_putF C.1 C.2.1 hts h3 t h7 h8 C.2.2.2.1 hK hP (hD.weaken (fun _ _ _ h => hw _ h)) hS q0 (vv_at he) h1 j h2 (hts _ h4) (fun x hx => by rw [h5] at hx; exact hx) h6 hin h10 (by rw [h7 j h2, h9]) hn hfit hj hd (fun H1 locs1 hP1 hD1 hS1 => kk C H1 locs1 ls hK (by rw [← vv_sets he]; exact hP1) (by rw [← vv_sets he]; exact hD.set (vv_at he)) hS1 hl)
theorem vv_iald {a N : Nat} {cA : ClassId} {g : Nat → Int} {z : Int} (hd : decode M.1 pc = .ok (.iaload, 1)) (q0 t0 : Nat) (ha : ws[q0]? = some (a, .inl (cA, N, .inl (fun j => iI (g j))))) (ht : tys[t0]? = some (cA, .int)) (hz : 0 ≤ z ∧ z < (N : Int) ∧ N < 2147483648) (kk : VV X M Q k n tys ws pl lv (.int (iI (g z.toNat)) :: st) (pc + 1)) : VV X M Q k n tys ws pl lv (.int (iI z) :: .ref a :: st) pc := fun C H locs ls hK hP hD hS hl =>
  va_iald C.1 C.2.1 hK hP q0 t0 (vv_at ha) ht (iI_in hz.1 hz.2.1 hz.2.2) hd (by rw [iI_cl hz.1 (by omega)]; exact kk C H locs ls hK hP hD hS hl)
theorem vv_iast (hw : cx_w X) {a N : Nat} {cA : ClassId} {g : Nat → Int} {z v : Int} (hd : decode M.1 pc = .ok (.iastore, 1)) (q0 t0 : Nat) (ha : ws[q0]? = some (a, .inl (cA, N, .inl (fun j => iI (g j))))) (ht : tys[t0]? = some (cA, .int)) (hz : 0 ≤ z ∧ z < (N : Int) ∧ N < 2147483648) (kk : VV X M Q k n tys (ws.set q0 (a, .inl (cA, N, .inl (fun j => iI (va_up g z.toNat v j))))) pl lv st (pc + 1)) : VV X M Q k n tys ws pl lv (.int (iI v) :: .int (iI z) :: .ref a :: st) pc := fun C H locs ls hK hP hD hS hl =>
  va_iast C.1 C.2.1 hK hP (hD.weaken (fun _ _ _ h => hw _ h)) hS q0 t0 (vv_at ha) ht (iI_in hz.1 hz.2.1 hz.2.2) hd (fun H1 locs1 hP1 hD1 hS1 => by
    have e1 : upd (fun j => iI (g j)) (iI z).toNatClampNeg (iI v) = fun j => iI (va_up g z.toNat v j) := by
      rw [iI_cl hz.1 (by omega)]
      funext j
      by_cases hj : j = z.toNat
      · simp [upd, va_up, hj]
      · simp [upd, va_up, hj]
    rw [e1, vv_sets ha] at hP1
    exact kk C H1 locs1 ls hK hP1 (by rw [← vv_sets ha]; exact hD.set (vv_at ha)) hS1 hl)
theorem vv_alen {a : Nat} {cA : ClassId} {x : vp_A} {ty : FieldType} {v : Int} (hd : decode M.1 pc = .ok (.arraylength, 1)) (q0 t0 : Nat) (ha : ws[q0]? = some (a, .inl (cA, x))) (ht : tys[t0]? = some (cA, ty)) (hv : (x.1 : Int) = v) (kk : VV X M Q k n tys ws pl lv (.int (iI v) :: st) (pc + 1)) : VV X M Q k n tys ws pl lv (.ref a :: st) pc := fun C H locs ls hK hP hD hS hl =>
  va_alen C.1 C.2.1 hK hP q0 t0 (vv_at ha) ht (by rw [← hv, iI_nat]; rfl) hd (kk C H locs ls hK hP hD hS hl)
theorem vv_aald {a N b : Nat} {cA : ClassId} {Cn : String} {f : Nat → Option Nat} {z : Int} (hd : decode M.1 pc = .ok (.aaload, 1)) (q0 t0 : Nat) (ha : ws[q0]? = some (a, .inl (cA, N, .inr (.inr (.inr (.inr f)))))) (ht : tys[t0]? = some (cA, .object Cn)) (hz : 0 ≤ z ∧ z < (N : Int) ∧ N < 2147483648) (hb : f z.toNat = some b) (kk : VV X M Q k n tys ws pl lv (.ref b :: st) (pc + 1)) : VV X M Q k n tys ws pl lv (.int (iI z) :: .ref a :: st) pc := fun C H locs ls hK hP hD hS hl =>
  va_aldq C.1 C.2.1 hK hP q0 t0 (vv_at ha) ht (iI_in hz.1 hz.2.1 hz.2.2) hd (by rw [iI_cl hz.1 (by omega), hb]; exact kk C H locs ls hK hP hD hS hl)

end VV
end
section
/-! Contracts over whole pictures, and calls by them. -/
def cp_Q (sz : Nat) (post : Option Value → Prop) : Array Value → State → Outcome → State → Prop := fun _ st oc t => (∃ v, oc = .returned v ∧ post v) ∧ va_F (fun q => sz ≤ q) st t
/-- a method that only reads: it answers v with 'post v', nothing old changes -/
def CP (l : Launch) (y : MethodName) (b : ByteArray) (nL : Nat) (rt : Option FieldType) (rm : Room) (av : List Value) (D : va_G) (tys : List (ClassId × FieldType)) (ws : va_W) (post : Option Value → Prop) : Prop :=
  ∀ sz : Nat, Met l y [.code y b nL rt] rm (va_Pc av (fun U => U.heap.size = sz ∧ tb_ok U ∧ va_P D classes ws U.heap ∧ va_K D classes tys U ∧ va_D (fun _ => True) ws)) (cp_Q sz post) rm.cells rm.slots (fun q => sz ≤ q)
def cm_B (D : va_G) (ws : va_W) (sz : Nat) (post : Option Value → va_W → va_W → List (ClassId × FieldType) → Prop) (v : Option Value) (t : State) : Prop :=
  ∃ (w1 p1 : va_W) (t1 : List (ClassId × FieldType)), post v w1 p1 t1 ∧ va_P D classes (w1 ++ p1) t.heap ∧ va_D (va_A ws sz) (w1 ++ p1) ∧ va_K D classes t1 t
def cm_Q (D : va_G) (ws : va_W) (sz : Nat) (post : Option Value → va_W → va_W → List (ClassId × FieldType) → Prop) : Array Value → State → Outcome → State → Prop := fun _ st oc t =>
  (∃ v : Option Value, oc = .returned v ∧ cm_B D ws sz post v t) ∧ va_F (va_A ws sz) st t
/-- a method that writes: from the picture ws it comes to a picture w1 ++ p1, with the arrays' classes t1, 'post v w1 p1 t1' -/
def CM (l : Launch) (y : MethodName) (b : ByteArray) (nL : Nat) (rt : Option FieldType) (rm : Room) (av : List Value) (D : va_G) (tys : List (ClassId × FieldType)) (ws : va_W) (post : Option Value → va_W → va_W → List (ClassId × FieldType) → Prop) : Prop :=
  ∀ sz : Nat, Met l y [.code y b nL rt] rm (va_Pc av (fun U => U.heap.size = sz ∧ tb_ok U ∧ va_P D classes ws U.heap ∧ va_K D classes tys U ∧ va_D (fun _ => True) ws)) (cm_Q D ws sz post) rm.cells rm.slots (va_A ws sz)
theorem cm_blind {av : List Value} {D : va_G} {tys : List (ClassId × FieldType)} {ws : va_W} {sz : Nat} : FrameBlind (va_Pc av (fun U => U.heap.size = sz ∧ tb_ok U ∧ va_P D classes ws U.heap ∧ va_K D classes tys U ∧ va_D (fun _ => True) ws)) := fun a U g mk q => by
  obtain ⟨q0, qz, q1, q2, q3, q4⟩ := q
  exact ⟨q0, qz, tb_same (s := U) (U := U.calling g mk a) rfl q1, q2, va_K.moved (u := U) (U := U.calling g mk a) (Vm.Alike.refl U.vm) q3, q4⟩
/-- locals at the entry -/
def lo_args : List Value → List (Option Value)
  | [] => []
  | v :: vs => if v.category = 2 then some v :: none :: lo_args vs else some v :: lo_args vs
theorem lo_args_sub : ∀ (vs : List Value) (j i : Nat) (v : Value), (lo_args vs)[i]? = some (some v) → (j + i, v) ∈ lv_args j vs
  | [], j, i, v, h => by simp [lo_args] at h
  | u :: vs, j, i, v, h => by
    unfold lo_args at h
    by_cases hc : u.category = 2
    · rw [if_pos hc] at h
      cases i with
      | zero =>
        have e1 : u = v := Option.some.inj (Option.some.inj h)
        subst e1
        exact List.mem_cons_self
      | succ i =>
        cases i with
        | zero => cases h
        | succ i =>
          have h2 := lo_args_sub vs (j + 2) i v h
          show (j + (i + 1 + 1), v) ∈ (j, u) :: lv_args (if u.category = 2 then j + 2 else j + 1) vs
          rw [if_pos hc, show j + (i + 1 + 1) = j + 2 + i by omega]
          exact List.mem_cons_of_mem _ h2
    · rw [if_neg hc] at h
      cases i with
      | zero =>
        have e1 : u = v := Option.some.inj (Option.some.inj h)
        subst e1
        exact List.mem_cons_self
      | succ i =>
        have h2 := lo_args_sub vs (j + 1) i v h
        show (j + (i + 1), v) ∈ (j, u) :: lv_args (if u.category = 2 then j + 2 else j + 1) vs
        rw [if_neg hc, show j + (i + 1) = j + 1 + i by omega]
        exact List.mem_cons_of_mem _ h2
def lo_pad (lv : List (Option Value)) (nL : Nat) : List (Option Value) := lv ++ List.replicate (nL - lv.length) none
theorem lo_entry (vs : List Value) {nL : Nat} (h : (lg_sl vs).length ≤ nL) : lo_has ((lg_sl vs ++ List.replicate (nL - (lg_sl vs).length) Slot.unset).toArray) nL (lo_pad (lo_args vs) nL) := by
  have h0 := lv_entry vs h
  refine ⟨h0.1, h0.2.1, fun i v hi => ?_⟩
  refine h0.2.2 (i, v) ?_
  have h1 : (lo_args vs)[i]? = some (some v) := by
    unfold lo_pad at hi
    by_cases hl : i < (lo_args vs).length
    · rw [List.getElem?_append_left hl] at hi
      exact hi
    · rw [List.getElem?_append_right (by omega), List.getElem?_replicate] at hi
      split at hi
      · cases hi
      · cases hi
  have h2 := lo_args_sub vs 0 i v h1
  rw [Nat.zero_add] at h2
  exact h2
def cq (X : cx_T) (ws : va_W) (sz : Nat) (post : Option Value → va_W → va_W → List (ClassId × FieldType) → Prop) (rm : Room) : State → Prop := MQ (cx_b X) (cm_Q (cx_D X) ws sz post) (cx_a X) (cx_s X) rm.cells rm.slots (va_A ws sz)
def cr (X : cx_T) (sz : Nat) (post : Option Value → Prop) (rm : Room) : State → Prop := MQ (cx_b X) (cp_Q sz post) (cx_a X) (cx_s X) rm.cells rm.slots (fun q => sz ≤ q)
theorem cm_of {l : Launch} {y : MethodName} {b : ByteArray} {nL : Nat} {rt : Option FieldType} {rm : Room} {av : List Value} {D : va_G} {tys : List (ClassId × FieldType)} {ws pl : va_W} {post : Option Value → va_W → va_W → List (ClassId × FieldType) → Prop}
    (hy : plainName y.cls = true) (hav : (lg_sl av).length ≤ nL)
    (body : ∀ (X : cx_T) (sz : Nat), cx_l X = l → (cx_M X).sig.returnType = rt → (cx_M X).name = y.name → cx_D X = D → cx_A X = va_A (ws ++ pl) sz → cx_w X → VV X (b, nL, y.cls, rm) (cq X (ws ++ pl) sz post rm) 0 0 tys ws pl (lo_pad (lo_args av) nL) [] 0) :
    CM l y b nL rt rm av D tys (ws ++ pl) post := by
  intro sz
  refine Met.ofW (cc := b) (maxL := nL) (ret := rt) hy rfl ?_
  intro p e s m args below meth c s₁ B hml hv
  obtain ⟨rfl, hsz, hTB, hP, hK, hD0⟩ := hv
  subst hsz
  rw [lg_entry_eq]
  exact body (p, l, e, s, m, av.toArray, below, meth, c, D, va_A (ws ++ pl) s.heap.size, va_A (ws ++ pl) s.heap.size) s.heap.size rfl B.returns (name_of_methodNamed B.named B.method).1 rfl rfl (fun _ h => h)
    ⟨B.exec, B.bytes, hml, findClass_of_methodNamed B.named, hTB, fun q h => ⟨Or.inr h, Or.inr h⟩, B.notSynchronized⟩ s.heap [] _ hK hP hD0.self va_S.rf (lo_entry av hav)
theorem cp_of {l : Launch} {y : MethodName} {b : ByteArray} {nL : Nat} {rt : Option FieldType} {rm : Room} {av : List Value} {D : va_G} {tys : List (ClassId × FieldType)} {ws pl : va_W} {post : Option Value → Prop}
    (hy : plainName y.cls = true) (hav : (lg_sl av).length ≤ nL)
    (body : ∀ (X : cx_T) (sz : Nat), cx_l X = l → (cx_M X).sig.returnType = rt → cx_D X = D → cx_A X = (fun q => sz ≤ q) → VV X (b, nL, y.cls, rm) (cr X sz post rm) 0 0 tys ws pl (lo_pad (lo_args av) nL) [] 0) :
    CP l y b nL rt rm av D tys (ws ++ pl) post := by
  intro sz
  refine Met.ofW (cc := b) (maxL := nL) (ret := rt) hy rfl ?_
  intro p e s m args below meth c s₁ B hml hv
  obtain ⟨rfl, hsz, hTB, hP, hK, hD0⟩ := hv
  subst hsz
  rw [lg_entry_eq]
  exact body (p, l, e, s, m, av.toArray, below, meth, c, D, (fun q => s.heap.size ≤ q), fun _ => True) s.heap.size rfl B.returns rfl rfl
    ⟨B.exec, B.bytes, hml, findClass_of_methodNamed B.named, hTB, fun q h => ⟨h, trivial⟩, B.notSynchronized⟩ s.heap [] _ hK hP hD0 va_S.rf (lo_entry av hav)
section RET
variable {X : cx_T} {M : ms_T} {k n : Nat} {tys : List (ClassId × FieldType)} {ws pl ws0 : va_W} {lv : List (Option Value)} {pc sz : Nat} {rm : Room} {post : Option Value → va_W → va_W → List (ClassId × FieldType) → Prop} {pst : Option Value → Prop}
theorem rt_Q {H : Heap} {locs : List Loc} {v : Option Value} (hA : cx_A X = va_A ws0 sz) (hw : cx_w X) (hp : post v ws pl tys) (hK : va_K (cx_D X) classes tys (cx_s X)) (hP : va_P (cx_D X) classes (ws ++ pl) H) (hD : va_D (cx_B X) (ws ++ pl)) (hS : va_S (cx_A X) (cx_s X).heap H locs) : ∀ t : State, t.heap = H → (cx_s X).WarmedH t.vm → cm_Q (cx_D X) ws0 sz post (cx_a X) (cx_s X) (.returned v) t := fun t ht hW =>
  ⟨⟨v, rfl, ws, pl, tys, hp, by rw [ht]; exact hP, by rw [← hA]; exact hD.weaken (fun _ _ _ h => hw _ h), va_K.moved hW.alike hK⟩, by rw [← hA]; exact hS.F ht⟩
theorem rp_Q {H : Heap} {locs : List Loc} {v : Option Value} (hA : cx_A X = (fun q => sz ≤ q)) (hp : pst v) (hS : va_S (cx_A X) (cx_s X).heap H locs) : ∀ t : State, t.heap = H → (cx_s X).WarmedH t.vm → cp_Q sz pst (cx_a X) (cx_s X) (.returned v) t := fun t ht _ =>
  ⟨⟨v, rfl, hp⟩, by rw [← hA]; exact hS.F ht⟩
theorem vv_iret {x : Int32} (hA : cx_A X = va_A ws0 sz) (hw : cx_w X) (hr : (cx_M X).sig.returnType = some .int) (hd : decode M.1 pc = .ok (.ireturn, 1)) (hk : k ≤ rm.cells) (hn : n ≤ rm.slots) (hp : post (some (.int x)) ws pl tys) : VV X M (cq X ws0 sz post rm) k n tys ws pl lv [.int x] pc := fun C H locs ls hK hP hD hS hl =>
  W.widen hk hn (W.iret (v := x) C.1 C.2.1 hr (rt_Q hA hw hp hK hP hD hS) (by rw [← hA]; exact hS.2.2) hd C.2.2.2.2.2.2)
theorem vv_zret {x : Int32} {ty : FieldType} (hA : cx_A X = va_A ws0 sz) (hw : cx_w X) (hr : (cx_M X).sig.returnType = some ty) (hnr : narrow ty (.int x) = .int x) (hd : decode M.1 pc = .ok (.ireturn, 1)) (hk : k ≤ rm.cells) (hn : n ≤ rm.slots) (hp : post (some (.int x)) ws pl tys) : VV X M (cq X ws0 sz post rm) k n tys ws pl lv [.int x] pc := fun C H locs ls hK hP hD hS hl =>
  W.widen hk hn (W.zret (v := x) C.1 C.2.1 hr hnr (rt_Q hA hw hp hK hP hD hS) (by rw [← hA]; exact hS.2.2) hd C.2.2.2.2.2.2)
theorem vv_lret {x : Int64} (hA : cx_A X = va_A ws0 sz) (hw : cx_w X) (hr : (cx_M X).sig.returnType = some .long) (hd : decode M.1 pc = .ok (.lreturn, 1)) (hk : k ≤ rm.cells) (hn : n ≤ rm.slots) (hp : post (some (.long x)) ws pl tys) : VV X M (cq X ws0 sz post rm) k n tys ws pl lv [.long x] pc := fun C H locs ls hK hP hD hS hl =>
  W.widen hk hn (W.lret (v := x) C.1 C.2.1 hr (rt_Q hA hw hp hK hP hD hS) (by rw [← hA]; exact hS.2.2) hd C.2.2.2.2.2.2)
theorem vv_vret (hA : cx_A X = va_A ws0 sz) (hw : cx_w X) (hr : (cx_M X).sig.returnType = none) (hd : decode M.1 pc = .ok (.return_, 1)) (hk : k ≤ rm.cells) (hn : n ≤ rm.slots) (hp : post none ws pl tys) : VV X M (cq X ws0 sz post rm) k n tys ws pl lv [] pc := fun C H locs ls hK hP hD hS hl =>
  W.widen hk hn (W.vret C.1 C.2.1 hr (rt_Q hA hw hp hK hP hD hS) (by rw [← hA]; exact hS.2.2) hd C.2.2.2.2.2.2)
theorem vp_iret {x : Int32} (hA : cx_A X = (fun q => sz ≤ q)) (hr : (cx_M X).sig.returnType = some .int) (hd : decode M.1 pc = .ok (.ireturn, 1)) (hk : k ≤ rm.cells) (hn : n ≤ rm.slots) (hp : pst (some (.int x))) : VV X M (cr X sz pst rm) k n tys ws pl lv [.int x] pc := fun C H locs ls hK hP hD hS hl =>
  W.widen hk hn (W.iret (v := x) C.1 C.2.1 hr (rp_Q hA hp hS) (by have h9 := hS.2.2; rw [hA] at h9; exact h9) hd C.2.2.2.2.2.2)
theorem vp_zret {x : Int32} {ty : FieldType} (hA : cx_A X = (fun q => sz ≤ q)) (hr : (cx_M X).sig.returnType = some ty) (hnr : narrow ty (.int x) = .int x) (hd : decode M.1 pc = .ok (.ireturn, 1)) (hk : k ≤ rm.cells) (hn : n ≤ rm.slots) (hp : pst (some (.int x))) : VV X M (cr X sz pst rm) k n tys ws pl lv [.int x] pc := fun C H locs ls hK hP hD hS hl =>
  W.widen hk hn (W.zret (v := x) C.1 C.2.1 hr hnr (rp_Q hA hp hS) (by have h9 := hS.2.2; rw [hA] at h9; exact h9) hd C.2.2.2.2.2.2)
theorem vp_lret {x : Int64} (hA : cx_A X = (fun q => sz ≤ q)) (hr : (cx_M X).sig.returnType = some .long) (hd : decode M.1 pc = .ok (.lreturn, 1)) (hk : k ≤ rm.cells) (hn : n ≤ rm.slots) (hp : pst (some (.long x))) : VV X M (cr X sz pst rm) k n tys ws pl lv [.long x] pc := fun C H locs ls hK hP hD hS hl =>
  W.widen hk hn (W.lret (v := x) C.1 C.2.1 hr (rp_Q hA hp hS) (by have h9 := hS.2.2; rw [hA] at h9; exact h9) hd C.2.2.2.2.2.2)
theorem vp_aret {a : Nat} {rt : FieldType} (hA : cx_A X = (fun q => sz ≤ q)) (hr : (cx_M X).sig.returnType = some rt) (hrt : (∃ n, rt = .object n) ∨ ∃ t, rt = .array t) (hd : decode M.1 pc = .ok (.areturn, 1)) (hk : k ≤ rm.cells) (hn : n ≤ rm.slots) (hp : pst (some (.ref a))) : VV X M (cr X sz pst rm) k n tys ws pl lv [.ref a] pc := fun C H locs ls hK hP hD hS hl =>
  W.widen hk hn (W.aret (v := .ref a) C.1 C.2.1 hr hrt (Or.inr ⟨a, rfl⟩) (rp_Q hA hp hS) (by have h9 := hS.2.2; rw [hA] at h9; exact h9) hd C.2.2.2.2.2.2)
theorem vp_vret (hA : cx_A X = (fun q => sz ≤ q)) (hr : (cx_M X).sig.returnType = none) (hd : decode M.1 pc = .ok (.return_, 1)) (hk : k ≤ rm.cells) (hn : n ≤ rm.slots) (hp : pst none) : VV X M (cr X sz pst rm) k n tys ws pl lv [] pc := fun C H locs ls hK hP hD hS hl =>
  W.widen hk hn (W.vret C.1 C.2.1 hr (rp_Q hA hp hS) (by have h9 := hS.2.2; rw [hA] at h9; exact h9) hd C.2.2.2.2.2.2)
end RET

/-! ### how a call is linked -/
def lk_V (own : String) (idx : Nat) (y : MethodName) (b : ByteArray) (nL : Nat) (rt : Option FieldType) (np : Nat) : Prop :=
  (Cond.methodLink own idx y ∈ tb_l ∨ ∃ host, Cond.methodLinkNest own idx y host ∈ tb_l) ∧ (Cond.instanceMethod y ∈ tb_l ∧ Cond.selects y.cls y y ∈ tb_l) ∧ Cond.initialized y.cls ∈ tb_l ∧ Cond.code y b nL rt ∈ tb_l ∧ (y.cls ≠ "java/lang/invoke/MethodHandle" ∧ y.cls ≠ "java/lang/invoke/VarHandle") ∧ (parseMethodDescriptor y.desc).map (fun d => d.parameters.length) = some np
def lk_S (own : String) (idx : Nat) (y : MethodName) (b : ByteArray) (nL : Nat) (rt : Option FieldType) (np : Nat) : Prop :=
  (Cond.methodLink own idx y ∈ tb_l ∨ ∃ host, Cond.methodLinkNest own idx y host ∈ tb_l) ∧ Cond.static y ∈ tb_l ∧ Cond.initialized y.cls ∈ tb_l ∧ Cond.code y b nL rt ∈ tb_l ∧ (y.cls ≠ "java/lang/invoke/MethodHandle" ∧ y.cls ≠ "java/lang/invoke/VarHandle") ∧ (parseMethodDescriptor y.desc).map (fun d => d.parameters.length) = some np
def lk_I (own : String) (idx : Nat) (y : MethodName) (b : ByteArray) (nL : Nat) (np : Nat) : Prop :=
  (Cond.methodLink own idx y ∈ tb_l ∨ ∃ host, Cond.methodLinkNest own idx y host ∈ tb_l) ∧ (Cond.instanceMethod y ∈ tb_l ∧ y.name = "<init>") ∧ Cond.initialized y.cls ∈ tb_l ∧ Cond.code y b nL none ∈ tb_l ∧ (y.cls ≠ "java/lang/invoke/MethodHandle" ∧ y.cls ≠ "java/lang/invoke/VarHandle") ∧ (parseMethodDescriptor y.desc).map (fun d => d.parameters.length) = some np
/-- the room that a callee wants -/
def rm_ok (R rm : Room) (nL k n : Nat) (rest : List Value) : Prop := (rm.frames + 1 ≤ R.frames ∧ 8 + (nL + 11) + rm.locals ≤ R.locals) ∧ (k + rm.cells ≤ R.cells ∧ n + rm.slots ≤ R.slots) ∧ (rest.map fun v => v.category).sum ≤ 8
theorem lk_np {y : MethodName} {np : Nat} (h : (parseMethodDescriptor y.desc).map (fun d => d.parameters.length) = some np) : ∀ sig, parseMethodDescriptor y.desc = some sig → np = sig.parameters.length := fun sig hs => by
  rw [hs] at h
  exact (Option.some.inj h).symm
section RUN
variable {X : cx_T} {M : ms_T} {k n : Nat} {pc idx nL a : Nat} {rm : Room} {y : MethodName} {b : ByteArray} {rt : Option FieldType} {As rest : List Value} {H : Heap} {locs : List Loc} {ls : Array Slot} {Pc : Array Value → State → Prop} {Qc : Array Value → State → Outcome → State → Prop} {free : Addr → Prop}
theorem rn_ws (C : cx_ok X M) {w0 : Cond} (h : w0 ∈ tb_l) : ∀ w ∈ [w0], ∀ (a' : Array Value) (U : State), (cx_s X).WarmedH U.vm → w.before a' U = true := fun w hw a' U hW => by
  rw [List.mem_singleton] at hw
  subst hw
  exact tb_moved hW C.2.2.2.2.1 w h a'
theorem rn_V (C : cx_ok X M) (hL : lk_V M.2.2.1 idx y b nL rt As.length) (hM : Met (cx_l X) y [.code y b nL rt] rm Pc Qc rm.cells rm.slots free) (hbl : FrameBlind Pc) (hrc : ∃ cell : Cell, H[a]? = some cell ∧ cell.vm.isStatics = false ∧ (cx_s X).vm.findClass y.cls = some cell.cls)
    (hPc : ∀ U : State, U.heap = H → (cx_s X).WarmedH U.vm → Pc (Value.ref a :: As).toArray U) (hls : ls.size = M.2.1) (hR : rm_ok M.2.2.2 rm nL k n rest) (hd : decode M.1 pc = .ok (.invokevirtual idx, 3)) :
    va_Run (cx_p X) (cx_l X) (cx_e X) M.2.2.2 (cx_s X) (cx_m X) (cx_a X) (cx_b X) (cx_M X) (cx_c X) H locs k n rm.cells rm.slots (F0 (cx_m X) pc ls (As.reverse ++ .ref a :: rest)) rest (Qc (Value.ref a :: As).toArray) free := by
  obtain ⟨h1, ⟨h2, h3⟩, h4, h5, h6, h7⟩ := hL
  have hts : ∀ w ∈ tb_l, w.before (cx_a X) (cx_s X) = true := fun w hw => C.2.2.2.2.1 w hw _
  rcases h1 with h1 | ⟨host, h1⟩
  · exact va_runV (C := y.cls) (As := As) (rest := rest) (bytes := b) (maxL := nL) (ret := rt) (n := As.length) ⟨C.1, C.2.1, C.2.2.1, C.2.2.2.1, hts⟩ hM
      ⟨⟨rfl, rfl, hR.1.1, hR.1.2, rn_ws C h5, List.mem_singleton.mpr rfl, hts _ h5, hts _ h4, h6, lk_np h7, hts _ h1⟩, hts _ h2, hts _ h3⟩ ⟨hbl, hrc, hPc⟩ rfl rfl hls rfl (lv_room hR.2.2) hd hR.2.1
  · exact va_runVN (C := y.cls) (As := As) (rest := rest) (bytes := b) (maxL := nL) (ret := rt) (n := As.length) ⟨C.1, C.2.1, C.2.2.1, C.2.2.2.1, hts⟩ hM
      ⟨⟨⟨rfl, rfl, hR.1.1, hR.1.2, rn_ws C h5, List.mem_singleton.mpr rfl⟩, hts _ h5, hts _ h4, h6, lk_np h7, hts _ h1⟩, hts _ h2, hts _ h3⟩ ⟨hbl, hrc, hPc⟩ rfl rfl hls rfl (lv_room hR.2.2) hd hR.2.1
theorem rn_S (C : cx_ok X M) (hL : lk_S M.2.2.1 idx y b nL rt As.length) (hM : Met (cx_l X) y [.code y b nL rt] rm Pc Qc rm.cells rm.slots free) (hbl : FrameBlind Pc)
    (hPc : ∀ U : State, U.heap = H → (cx_s X).WarmedH U.vm → Pc As.toArray U) (hls : ls.size = M.2.1) (hR : rm_ok M.2.2.2 rm nL k n rest) (hd : decode M.1 pc = .ok (.invokestatic idx, 3)) :
    va_Run (cx_p X) (cx_l X) (cx_e X) M.2.2.2 (cx_s X) (cx_m X) (cx_a X) (cx_b X) (cx_M X) (cx_c X) H locs k n rm.cells rm.slots (F0 (cx_m X) pc ls (As.reverse ++ rest)) rest (Qc As.toArray) free := by
  obtain ⟨h1, h2, h4, h5, h6, h7⟩ := hL
  have hts : ∀ w ∈ tb_l, w.before (cx_a X) (cx_s X) = true := fun w hw => C.2.2.2.2.1 w hw _
  rcases h1 with h1 | ⟨host, h1⟩
  · exact va_runS (As := As) (rest := rest) (bytes := b) (maxL := nL) (ret := rt) (n := As.length) ⟨C.1, C.2.1, C.2.2.1, C.2.2.2.1, hts⟩ hM
      ⟨⟨rfl, rfl, hR.1.1, hR.1.2, rn_ws C h5, List.mem_singleton.mpr rfl, hts _ h5, hts _ h4, h6, lk_np h7, hts _ h1⟩, hts _ h2⟩ ⟨hbl, hPc⟩ rfl rfl hls rfl (lv_room hR.2.2) hd hR.2.1
  · exact va_runSN (As := As) (rest := rest) (bytes := b) (maxL := nL) (ret := rt) (n := As.length) ⟨C.1, C.2.1, C.2.2.1, C.2.2.2.1, hts⟩ hM
      ⟨⟨⟨rfl, rfl, hR.1.1, hR.1.2, rn_ws C h5, List.mem_singleton.mpr rfl⟩, hts _ h5, hts _ h4, h6, lk_np h7, hts _ h1⟩, hts _ h2, trivial⟩ ⟨hbl, hPc⟩ rfl rfl hls rfl (lv_room hR.2.2) hd hR.2.1
theorem rn_I (C : cx_ok X M) (hL : lk_I M.2.2.1 idx y b nL As.length) (hM : Met (cx_l X) y [.code y b nL none] rm Pc Qc rm.cells rm.slots free) (hbl : FrameBlind Pc)
    (hPc : ∀ U : State, U.heap = H → (cx_s X).WarmedH U.vm → Pc (Value.ref a :: As).toArray U) (hls : ls.size = M.2.1) (hR : rm_ok M.2.2.2 rm nL k n rest) (hd : decode M.1 pc = .ok (.invokespecial idx, 3)) :
    va_Run (cx_p X) (cx_l X) (cx_e X) M.2.2.2 (cx_s X) (cx_m X) (cx_a X) (cx_b X) (cx_M X) (cx_c X) H locs k n rm.cells rm.slots (F0 (cx_m X) pc ls (As.reverse ++ .ref a :: rest)) rest (Qc (Value.ref a :: As).toArray) free := by
  obtain ⟨h1, ⟨h2, h3⟩, h4, h5, h6, h7⟩ := hL
  have hts : ∀ w ∈ tb_l, w.before (cx_a X) (cx_s X) = true := fun w hw => C.2.2.2.2.1 w hw _
  rcases h1 with h1 | ⟨host, h1⟩
  · exact va_runI (As := As) (rest := rest) (bytes := b) (maxL := nL) (n := As.length) ⟨C.1, C.2.1, C.2.2.1, C.2.2.2.1, hts⟩ hM
      ⟨⟨rfl, rfl, hR.1.1, hR.1.2, rn_ws C h5, List.mem_singleton.mpr rfl, hts _ h5, hts _ h4, h6, lk_np h7, hts _ h1⟩, h3, hts _ h2⟩ ⟨hbl, hPc⟩ rfl rfl hls rfl (lv_room hR.2.2) hd hR.2.1
  · exact va_runIN (As := As) (rest := rest) (bytes := b) (maxL := nL) (n := As.length) ⟨C.1, C.2.1, C.2.2.1, C.2.2.2.1, hts⟩ hM
      ⟨⟨⟨rfl, rfl, hR.1.1, hR.1.2, rn_ws C h5, List.mem_singleton.mpr rfl⟩, hts _ h5, hts _ h4, h6, lk_np h7, hts _ h1⟩, h3, hts _ h2⟩ ⟨hbl, hPc⟩ rfl rfl hls rfl (lv_room hR.2.2) hd hR.2.1
end RUN
/-! ### behind a call -/
section BEH
variable {p : Program} {l : Launch} {e : Env} {R : Room} {s : State} {m : MethodId} {args : Array Value} {below : List Frame} {meth : Method} {c : Code} {H : Heap} {locs : List Loc} {cells slots : Nat} {Q : State → Prop}
variable {pc : Nat} {ls : Array Slot} {rest st0 : List Value} {A0 A1 : Nat → Prop} {H0 : Heap} {mc ms : Nat} {free : Addr → Prop}
theorem bh_any {B : Option Value → State → Prop} (hr : va_Run p l e R s m args below meth c H locs cells slots mc ms (F0 m pc ls st0) rest (fun st oc t => (∃ v, oc = .returned v ∧ B v t) ∧ va_F A1 st t) free) (hS : va_S A0 H0 H locs) (hA : ∀ q, q < H.size → A1 q → A0 q) (hf : ∀ q, free q → A0 q)
    (kk : ∀ (v : Option Value) (t : State) (H1 : Heap) (locs1 : List Loc), t.heap = H1 → s.vm.Alike t.vm → B v t → H.size ≤ H1.size → (∀ q : Nat, q < H.size → ¬ A1 q → H1[q]? = H[q]?) → va_S A0 H0 H1 locs1 → W p l e R s m args below meth c H1 locs1 (cells + mc) (slots + ms) Q (F0 m (pc + 3) ls (v.toList ++ rest))) : W p l e R s m args below meth c H locs cells slots Q (F0 m pc ls st0) := by
  intro T hT X
  obtain ⟨v, st₀, t, T', L, h0, X', hL, e1, e2, ⟨⟨v', hv, hb⟩, hz, hk⟩, st⟩ := hr T hT X
  cases hv
  rw [h0] at hz hk
  obtain ⟨t2, a1, b1⟩ := kk v t T'.heap (locs ++ L) e1.symm (by rw [← e2]; exact X'.warmed.alike) hb (by rw [e1]; exact hz) (fun q h1 h2 => by rw [e1]; exact hk q h1 h2)
    ⟨Nat.le_trans hS.1 (by rw [e1]; exact hz), fun q h1 h2 => by rw [e1, hk q (Nat.lt_of_lt_of_le h1 hS.1) (fun z => h2 (hA q (Nat.lt_of_lt_of_le h1 hS.1) z))]; exact hS.2.1 q h1 h2, fun q hq => by
      rcases List.mem_append.mp hq with h | h
      · exact hS.2.2 q h
      · exact hf _ (hL q h)⟩ T' rfl X'
  exact ⟨t2, st t2 a1, b1⟩
end BEH
theorem va_pre {D : va_G} {cl : List vw_C} {w1 w2 : va_W} {H : Heap} (h : va_P D cl (w1 ++ w2) H) : va_P D cl w1 H := fun j q hj => h j q (by rw [List.getElem?_append_left (List.getElem?_eq_some_iff.mp hj).1]; exact hj)
theorem va_dre {A : Nat → Prop} {w1 w2 : va_W} (h : va_D A (w1 ++ w2)) : va_D A w1 := ⟨fun i j x y hx hy hxy => h.1 i j x y (by rw [List.getElem?_append_left (List.getElem?_eq_some_iff.mp hx).1]; exact hx) (by rw [List.getElem?_append_left (List.getElem?_eq_some_iff.mp hy).1]; exact hy) hxy, fun j q hj => h.2 j q (by rw [List.getElem?_append_left (List.getElem?_eq_some_iff.mp hj).1]; exact hj)⟩
end
section
/-! Calls in a walk. sp_ok: the callee's picture wc ++ plc is cut out of ws ++ pl by the places 'is' (and the pool, or nothing of it). -/
def sp_ok (ws pl wc plc : va_W) (is : List Nat) : Prop := is.map (fun i => ws[i]?) = wc.map some ∧ va_nd is = true ∧ (plc = [] ∨ plc = pl)
theorem sp_P {D : va_G} {ws pl wc plc : va_W} {is : List Nat} {H : Heap} (h : sp_ok ws pl wc plc is) (hP : va_P D classes (ws ++ pl) H) : va_P D classes (wc ++ plc) H := by
  obtain ⟨h1, h2, h3⟩ := h
  have h4 := hP.part is h1
  rcases h3 with h3 | h3
  · subst h3
    rw [List.append_nil]
    exact va_pre h4
  · subst h3
    exact h4
theorem sp_D {A : Nat → Prop} {ws pl wc plc : va_W} {is : List Nat} (h : sp_ok ws pl wc plc is) (hD : va_D A (ws ++ pl)) : va_D A (wc ++ plc) := by
  obtain ⟨h1, h2, h3⟩ := h
  have h4 := hD.part is h2 h1
  rcases h3 with h3 | h3
  · subst h3
    rw [List.append_nil]
    exact va_dre h4
  · subst h3
    exact h4
def rc_ok (ws pl : va_W) (a : Nat) (C : String) : Prop := ∃ (q0 ci : Nat) (fs : List Value) (r : vw_C), (ws ++ pl)[q0]? = some (a, .inr (ci, fs)) ∧ classes[ci]? = some r ∧ r.1 = C
theorem rc_at {ws pl : va_W} {a ci : Nat} {fs : List Value} {r : vw_C} (q0 : Nat) (h : ws[q0]? = some (a, .inr (ci, fs))) (hc : classes[ci]? = some r) : rc_ok ws pl a r.1 := ⟨q0, ci, fs, r, vv_at h, hc, rfl⟩
theorem rc_pl {ws : va_W} {L : List Nat} {f : Nat → va_E} {a ci : Nat} {fs : List Value} {r : vw_C} (hm : a ∈ L) (h : f a = .inr (ci, fs)) (hc : classes[ci]? = some r) : rc_ok ws (va_pl L f) a r.1 := by
  obtain ⟨q, hq⟩ := va_pl_get (X := ws) (f := f) hm
  exact ⟨q, ci, fs, r, by rw [hq, h], hc, rfl⟩
theorem rc_use {D : va_G} {ws pl : va_W} {a : Nat} {C : String} {s : State} {H : Heap} {tys : List (ClassId × FieldType)} (h : rc_ok ws pl a C) (hK : va_K D classes tys s) (hP : va_P D classes (ws ++ pl) H) : ∃ cell : Cell, H[a]? = some cell ∧ cell.vm.isStatics = false ∧ s.vm.findClass C = some cell.cls := by
  obtain ⟨q0, ci, fs, r, h1, h2, h3⟩ := h
  subst h3
  exact va_recv hK hP h2 h1
/-- the callee's start -/
theorem cl_pre {X : cx_T} {M : ms_T} {av : List Value} {tys tc : List (ClassId × FieldType)} {ws pl wc plc : va_W} {is it : List Nat} {H : Heap} (C : cx_ok X M) (hsp : sp_ok ws pl wc plc is) (hit : it.filterMap (fun i => tys[i]?) = tc) (hK : va_K (cx_D X) classes tys (cx_s X)) (hP : va_P (cx_D X) classes (ws ++ pl) H) (hD : va_D (cx_B X) (ws ++ pl)) :
    ∀ U : State, U.heap = H → (cx_s X).WarmedH U.vm → va_Pc av (fun U => U.heap.size = H.size ∧ tb_ok U ∧ va_P (cx_D X) classes (wc ++ plc) U.heap ∧ va_K (cx_D X) classes tc U ∧ va_D (fun _ => True) (wc ++ plc)) av.toArray U := fun U hU hW =>
  ⟨rfl, by rw [hU], tb_moved hW C.2.2.2.2.1, by rw [hU]; exact sp_P hsp hP, va_K.moved hW.alike (hK.sub it hit), (sp_D hsp hD).weaken (fun _ _ _ _ => trivial)⟩
section VVC
variable {X : cx_T} {M : ms_T} {Q : State → Prop} {k n : Nat} {tys tc : List (ClassId × FieldType)} {ws pl wc plc wr : va_W} {lv : List (Option Value)} {st : List Value} {pc idx nL a : Nat} {rm : Room} {y : MethodName} {b : ByteArray} {rt : Option FieldType} {pst : Option Value → Prop} {post : Option Value → va_W → va_W → List (ClassId × FieldType) → Prop}
theorem pb_any {H : Heap} {locs : List Loc} {ls : Array Slot} {rest : List Value} {av : List Value} (C : cx_ok X M) (hz : rm.cells = 0 ∧ rm.slots = 0) (hK : va_K (cx_D X) classes tys (cx_s X)) (hP : va_P (cx_D X) classes (ws ++ pl) H) (hD : va_D (cx_B X) (ws ++ pl)) (hS : va_S (cx_A X) (cx_s X).heap H locs) (hl : lo_has ls M.2.1 lv)
    (hr : va_Run (cx_p X) (cx_l X) (cx_e X) M.2.2.2 (cx_s X) (cx_m X) (cx_a X) (cx_b X) (cx_M X) (cx_c X) H locs k n rm.cells rm.slots (F0 (cx_m X) pc ls st) rest (cp_Q H.size pst av.toArray) (fun q => H.size ≤ q))
    (kk : ∀ v, pst v → VV X M Q k n tys ws pl lv (v.toList ++ rest) (pc + 3)) : W (cx_p X) (cx_l X) (cx_e X) M.2.2.2 (cx_s X) (cx_m X) (cx_a X) (cx_b X) (cx_M X) (cx_c X) H locs k n Q (F0 (cx_m X) pc ls st) := by
  refine bh_any (B := fun v _ => pst v) (A0 := cx_A X) (A1 := fun q => H.size ≤ q) hr hS (fun q h1 h2 => by omega) (fun q h => (C.2.2.2.2.2.1 q (Nat.le_trans hS.1 h)).1) (fun v t H1 locs1 ht hvm hb hz1 hk1 hS1 => ?_)
  rw [hz.1, hz.2]
  exact kk v hb C H1 locs1 ls hK (hP.kept (fun j q hj => hk1 q.1 ((hP j q hj).lt) (by have := (hP j q hj).lt; omega))) hD hS1 hl
theorem mb_pl {H : Heap} {locs : List Loc} {ls : Array Slot} {rest : List Value} {av : List Value} {is ir : List Nat} (C : cx_ok X M) (hw : cx_w X) (hz : rm.cells = 0 ∧ rm.slots = 0) (hsp : is.map (fun i => ws[i]?) = wc.map some ∧ va_nd is = true) (hrs : ir.map (fun i => ws[i]?) = wr.map some ∧ va_nd ir = true ∧ ∀ i ∈ ir, i ∉ is) (hK : va_K (cx_D X) classes tys (cx_s X)) (hP : va_P (cx_D X) classes (ws ++ pl) H) (hD : va_D (cx_B X) (ws ++ pl)) (hS : va_S (cx_A X) (cx_s X).heap H locs) (hl : lo_has ls M.2.1 lv)
    (hr : va_Run (cx_p X) (cx_l X) (cx_e X) M.2.2.2 (cx_s X) (cx_m X) (cx_a X) (cx_b X) (cx_M X) (cx_c X) H locs k n rm.cells rm.slots (F0 (cx_m X) pc ls st) rest (cm_Q (cx_D X) (wc ++ pl) H.size post av.toArray) (va_A (wc ++ pl) H.size))
    (kk : ∀ v w1 p1 t1, post v w1 p1 t1 → VV X M Q k n tys (wr ++ w1) p1 lv (v.toList ++ rest) (pc + 3)) : W (cx_p X) (cx_l X) (cx_e X) M.2.2.2 (cx_s X) (cx_m X) (cx_a X) (cx_b X) (cx_M X) (cx_c X) H locs k n Q (F0 (cx_m X) pc ls st) := by
  have hF : ∀ q, va_A (wc ++ pl) H.size q → cx_B X q := fun q h => by
    rcases h with ⟨k2, e2, h⟩ | h
    · exact hD.2 _ (q, e2) (va_part is hsp.1 k2 _ h)
    · exact (C.2.2.2.2.2.1 q (Nat.le_trans hS.1 h)).2
  refine bh_any (B := cm_B (cx_D X) (wc ++ pl) H.size post) (A0 := cx_A X) (A1 := va_A (wc ++ pl) H.size) hr hS (fun q h1 h2 => hw _ (hF q h2)) (fun q h => hw _ (hF q h)) (fun v t H1 locs1 ht hvm hb hz1 hk1 hS1 => ?_)
  obtain ⟨w1, p1, t1, g1, g2, g3, g4⟩ := hb
  rw [ht] at g2
  rw [hz.1, hz.2]
  obtain ⟨j1, j2⟩ := va_joinP hP hD is ir hsp.1 hrs.1 hrs.2.1 hrs.2.2 hk1 hF g2 g3
  exact kk v w1 p1 t1 g1 C H1 locs1 ls hK j1 j2 hS1 hl
theorem mb_no {H : Heap} {locs : List Loc} {ls : Array Slot} {rest : List Value} {av : List Value} {is ir : List Nat} (C : cx_ok X M) (hw : cx_w X) (hz : rm.cells = 0 ∧ rm.slots = 0) (hsp : is.map (fun i => ws[i]?) = wc.map some ∧ va_nd is = true) (hrs : ir.map (fun i => ws[i]?) = wr.map some ∧ va_nd ir = true ∧ ∀ i ∈ ir, i ∉ is) (hK : va_K (cx_D X) classes tys (cx_s X)) (hP : va_P (cx_D X) classes (ws ++ pl) H) (hD : va_D (cx_B X) (ws ++ pl)) (hS : va_S (cx_A X) (cx_s X).heap H locs) (hl : lo_has ls M.2.1 lv)
    (hr : va_Run (cx_p X) (cx_l X) (cx_e X) M.2.2.2 (cx_s X) (cx_m X) (cx_a X) (cx_b X) (cx_M X) (cx_c X) H locs k n rm.cells rm.slots (F0 (cx_m X) pc ls st) rest (cm_Q (cx_D X) (wc ++ []) H.size post av.toArray) (va_A (wc ++ []) H.size))
    (kk : ∀ v w1 p1 t1, post v w1 p1 t1 → VV X M Q k n tys (wr ++ (w1 ++ p1)) pl lv (v.toList ++ rest) (pc + 3)) : W (cx_p X) (cx_l X) (cx_e X) M.2.2.2 (cx_s X) (cx_m X) (cx_a X) (cx_b X) (cx_M X) (cx_c X) H locs k n Q (F0 (cx_m X) pc ls st) := by
  rw [List.append_nil] at hr
  have hF : ∀ q, va_A wc H.size q → cx_B X q := fun q h => by
    rcases h with ⟨k2, e2, h⟩ | h
    · obtain ⟨i, h1, h2⟩ := va_in_of is hsp.1 h
      exact hD.2 i (q, e2) (vv_at h2)
    · exact (C.2.2.2.2.2.1 q (Nat.le_trans hS.1 h)).2
  refine bh_any (B := cm_B (cx_D X) wc H.size post) (A0 := cx_A X) (A1 := va_A wc H.size) hr hS (fun q h1 h2 => hw _ (hF q h2)) (fun q h => hw _ (hF q h)) (fun v t H1 locs1 ht hvm hb hz1 hk1 hS1 => ?_)
  obtain ⟨w1, p1, t1, g1, g2, g3, g4⟩ := hb
  rw [ht] at g2
  rw [hz.1, hz.2]
  obtain ⟨j1, j2⟩ := va_joinQ hP hD is ir hsp.1 hrs.1 hrs.2.1 hrs.2.2 hk1 hF g2 g3
  exact kk v w1 p1 t1 g1 C H1 locs1 ls hK j1 j2 hS1 hl

theorem vv_pV {As : List Value} (rest : List Value) (hM : CP (cx_l X) y b nL rt rm (.ref a :: As) (cx_D X) tc (wc ++ plc) pst) (hL : lk_V M.2.2.1 idx y b nL rt As.length) (hd : decode M.1 pc = .ok (.invokevirtual idx, 3)) (hst : As.reverse ++ .ref a :: rest = st) (hrc : rc_ok ws pl a y.cls) (is : List Nat) (hsp : sp_ok ws pl wc plc is) (it : List Nat) (hit : it.filterMap (fun i => tys[i]?) = tc) (hR : rm_ok M.2.2.2 rm nL k n rest) (hz : rm.cells = 0 ∧ rm.slots = 0) (kk : ∀ v, pst v → VV X M Q k n tys ws pl lv (v.toList ++ rest) (pc + 3)) : VV X M Q k n tys ws pl lv st pc := fun C H locs ls hK hP hD hS hl => by
  subst hst
  exact pb_any C hz hK hP hD hS hl (rn_V C hL (hM H.size) cm_blind (rc_use hrc hK hP) (cl_pre C hsp hit hK hP hD) hl.1 hR hd) kk
theorem vv_mV (hw : cx_w X) {As : List Value} (rest : List Value) (hM : CM (cx_l X) y b nL rt rm (.ref a :: As) (cx_D X) tc (wc ++ pl) post) (hL : lk_V M.2.2.1 idx y b nL rt As.length) (hd : decode M.1 pc = .ok (.invokevirtual idx, 3)) (hst : As.reverse ++ .ref a :: rest = st) (hrc : rc_ok ws pl a y.cls) (is ir : List Nat) (hsp : is.map (fun i => ws[i]?) = wc.map some ∧ va_nd is = true) (hrs : ir.map (fun i => ws[i]?) = wr.map some ∧ va_nd ir = true ∧ ∀ i ∈ ir, i ∉ is) (it : List Nat) (hit : it.filterMap (fun i => tys[i]?) = tc) (hR : rm_ok M.2.2.2 rm nL k n rest) (hz : rm.cells = 0 ∧ rm.slots = 0) (kk : ∀ v w1 p1 t1, post v w1 p1 t1 → VV X M Q k n tys (wr ++ w1) p1 lv (v.toList ++ rest) (pc + 3)) : VV X M Q k n tys ws pl lv st pc := fun C H locs ls hK hP hD hS hl => by
  subst hst
  exact mb_pl C hw hz hsp hrs hK hP hD hS hl (rn_V C hL (hM H.size) cm_blind (rc_use hrc hK hP) (cl_pre C (is := is) (plc := pl) ⟨hsp.1, hsp.2, Or.inr rfl⟩ hit hK hP hD) hl.1 hR hd) kk
theorem vv_nV (hw : cx_w X) {As : List Value} (rest : List Value) (hM : CM (cx_l X) y b nL rt rm (.ref a :: As) (cx_D X) tc (wc ++ []) post) (hL : lk_V M.2.2.1 idx y b nL rt As.length) (hd : decode M.1 pc = .ok (.invokevirtual idx, 3)) (hst : As.reverse ++ .ref a :: rest = st) (hrc : rc_ok ws pl a y.cls) (is ir : List Nat) (hsp : is.map (fun i => ws[i]?) = wc.map some ∧ va_nd is = true) (hrs : ir.map (fun i => ws[i]?) = wr.map some ∧ va_nd ir = true ∧ ∀ i ∈ ir, i ∉ is) (it : List Nat) (hit : it.filterMap (fun i => tys[i]?) = tc) (hR : rm_ok M.2.2.2 rm nL k n rest) (hz : rm.cells = 0 ∧ rm.slots = 0) (kk : ∀ v w1 p1 t1, post v w1 p1 t1 → VV X M Q k n tys (wr ++ (w1 ++ p1)) pl lv (v.toList ++ rest) (pc + 3)) : VV X M Q k n tys ws pl lv st pc := fun C H locs ls hK hP hD hS hl => by
  subst hst
  exact mb_no C hw hz hsp hrs hK hP hD hS hl (rn_V C hL (hM H.size) cm_blind (rc_use hrc hK hP) (cl_pre C (is := is) (plc := []) ⟨hsp.1, hsp.2, Or.inl rfl⟩ hit hK hP hD) hl.1 hR hd) kk
theorem vv_pS {As : List Value} (rest : List Value) (hM : CP (cx_l X) y b nL rt rm As (cx_D X) tc (wc ++ plc) pst) (hL : lk_S M.2.2.1 idx y b nL rt As.length) (hd : decode M.1 pc = .ok (.invokestatic idx, 3)) (hst : As.reverse ++ rest = st) (is : List Nat) (hsp : sp_ok ws pl wc plc is) (it : List Nat) (hit : it.filterMap (fun i => tys[i]?) = tc) (hR : rm_ok M.2.2.2 rm nL k n rest) (hz : rm.cells = 0 ∧ rm.slots = 0) (kk : ∀ v, pst v → VV X M Q k n tys ws pl lv (v.toList ++ rest) (pc + 3)) : VV X M Q k n tys ws pl lv st pc := fun C H locs ls hK hP hD hS hl => by
  subst hst
  exact pb_any C hz hK hP hD hS hl (rn_S C hL (hM H.size) cm_blind (cl_pre C hsp hit hK hP hD) hl.1 hR hd) kk
theorem vv_mS (hw : cx_w X) {As : List Value} (rest : List Value) (hM : CM (cx_l X) y b nL rt rm As (cx_D X) tc (wc ++ pl) post) (hL : lk_S M.2.2.1 idx y b nL rt As.length) (hd : decode M.1 pc = .ok (.invokestatic idx, 3)) (hst : As.reverse ++ rest = st) (is ir : List Nat) (hsp : is.map (fun i => ws[i]?) = wc.map some ∧ va_nd is = true) (hrs : ir.map (fun i => ws[i]?) = wr.map some ∧ va_nd ir = true ∧ ∀ i ∈ ir, i ∉ is) (it : List Nat) (hit : it.filterMap (fun i => tys[i]?) = tc) (hR : rm_ok M.2.2.2 rm nL k n rest) (hz : rm.cells = 0 ∧ rm.slots = 0) (kk : ∀ v w1 p1 t1, post v w1 p1 t1 → VV X M Q k n tys (wr ++ w1) p1 lv (v.toList ++ rest) (pc + 3)) : VV X M Q k n tys ws pl lv st pc := fun C H locs ls hK hP hD hS hl => by
  subst hst
  exact mb_pl C hw hz hsp hrs hK hP hD hS hl (rn_S C hL (hM H.size) cm_blind (cl_pre C (is := is) (plc := pl) ⟨hsp.1, hsp.2, Or.inr rfl⟩ hit hK hP hD) hl.1 hR hd) kk
theorem vv_nS (hw : cx_w X) {As : List Value} (rest : List Value) (hM : CM (cx_l X) y b nL rt rm As (cx_D X) tc (wc ++ []) post) (hL : lk_S M.2.2.1 idx y b nL rt As.length) (hd : decode M.1 pc = .ok (.invokestatic idx, 3)) (hst : As.reverse ++ rest = st) (is ir : List Nat) (hsp : is.map (fun i => ws[i]?) = wc.map some ∧ va_nd is = true) (hrs : ir.map (fun i => ws[i]?) = wr.map some ∧ va_nd ir = true ∧ ∀ i ∈ ir, i ∉ is) (it : List Nat) (hit : it.filterMap (fun i => tys[i]?) = tc) (hR : rm_ok M.2.2.2 rm nL k n rest) (hz : rm.cells = 0 ∧ rm.slots = 0) (kk : ∀ v w1 p1 t1, post v w1 p1 t1 → VV X M Q k n tys (wr ++ (w1 ++ p1)) pl lv (v.toList ++ rest) (pc + 3)) : VV X M Q k n tys ws pl lv st pc := fun C H locs ls hK hP hD hS hl => by
  subst hst
  exact mb_no C hw hz hsp hrs hK hP hD hS hl (rn_S C hL (hM H.size) cm_blind (cl_pre C (is := is) (plc := []) ⟨hsp.1, hsp.2, Or.inl rfl⟩ hit hK hP hD) hl.1 hR hd) kk
theorem vv_pI {As : List Value} (rest : List Value) (hM : CP (cx_l X) y b nL none rm (.ref a :: As) (cx_D X) tc (wc ++ plc) pst) (hL : lk_I M.2.2.1 idx y b nL As.length) (hd : decode M.1 pc = .ok (.invokespecial idx, 3)) (hst : As.reverse ++ .ref a :: rest = st) (is : List Nat) (hsp : sp_ok ws pl wc plc is) (it : List Nat) (hit : it.filterMap (fun i => tys[i]?) = tc) (hR : rm_ok M.2.2.2 rm nL k n rest) (hz : rm.cells = 0 ∧ rm.slots = 0) (kk : ∀ v, pst v → VV X M Q k n tys ws pl lv (v.toList ++ rest) (pc + 3)) : VV X M Q k n tys ws pl lv st pc := fun C H locs ls hK hP hD hS hl => by
  subst hst
  exact pb_any C hz hK hP hD hS hl (rn_I C hL (hM H.size) cm_blind (cl_pre C hsp hit hK hP hD) hl.1 hR hd) kk
theorem vv_mI (hw : cx_w X) {As : List Value} (rest : List Value) (hM : CM (cx_l X) y b nL none rm (.ref a :: As) (cx_D X) tc (wc ++ pl) post) (hL : lk_I M.2.2.1 idx y b nL As.length) (hd : decode M.1 pc = .ok (.invokespecial idx, 3)) (hst : As.reverse ++ .ref a :: rest = st) (is ir : List Nat) (hsp : is.map (fun i => ws[i]?) = wc.map some ∧ va_nd is = true) (hrs : ir.map (fun i => ws[i]?) = wr.map some ∧ va_nd ir = true ∧ ∀ i ∈ ir, i ∉ is) (it : List Nat) (hit : it.filterMap (fun i => tys[i]?) = tc) (hR : rm_ok M.2.2.2 rm nL k n rest) (hz : rm.cells = 0 ∧ rm.slots = 0) (kk : ∀ v w1 p1 t1, post v w1 p1 t1 → VV X M Q k n tys (wr ++ w1) p1 lv (v.toList ++ rest) (pc + 3)) : VV X M Q k n tys ws pl lv st pc := fun C H locs ls hK hP hD hS hl => by
  subst hst
  exact mb_pl C hw hz hsp hrs hK hP hD hS hl (rn_I C hL (hM H.size) cm_blind (cl_pre C (is := is) (plc := pl) ⟨hsp.1, hsp.2, Or.inr rfl⟩ hit hK hP hD) hl.1 hR hd) kk
theorem vv_nI (hw : cx_w X) {As : List Value} (rest : List Value) (hM : CM (cx_l X) y b nL none rm (.ref a :: As) (cx_D X) tc (wc ++ []) post) (hL : lk_I M.2.2.1 idx y b nL As.length) (hd : decode M.1 pc = .ok (.invokespecial idx, 3)) (hst : As.reverse ++ .ref a :: rest = st) (is ir : List Nat) (hsp : is.map (fun i => ws[i]?) = wc.map some ∧ va_nd is = true) (hrs : ir.map (fun i => ws[i]?) = wr.map some ∧ va_nd ir = true ∧ ∀ i ∈ ir, i ∉ is) (it : List Nat) (hit : it.filterMap (fun i => tys[i]?) = tc) (hR : rm_ok M.2.2.2 rm nL k n rest) (hz : rm.cells = 0 ∧ rm.slots = 0) (kk : ∀ v w1 p1 t1, post v w1 p1 t1 → VV X M Q k n tys (wr ++ (w1 ++ p1)) pl lv (v.toList ++ rest) (pc + 3)) : VV X M Q k n tys ws pl lv st pc := fun C H locs ls hK hP hD hS hl => by
  subst hst
  exact mb_no C hw hz hsp hrs hK hP hD hS hl (rn_I C hL (hM H.size) cm_blind (cl_pre C (is := is) (plc := []) ⟨hsp.1, hsp.2, Or.inl rfl⟩ hit hK hP hD) hl.1 hR hd) kk
end VVC
end
section
set_option maxRecDepth 100000 in
theorem fl_TB_25 : fl_ok "SheetTrees$Tables" 25 4 0 := ⟨R_TB, F_TB, 5, rfl, by decide, i_TB, Or.inl (tb_at 90 rfl rfl), rfl⟩
set_option maxRecDepth 100000 in
theorem fF_TB_25 : fF_ok "SheetTrees$Tables" 25 4 0 (t_TB 0) := ⟨R_TB, F_TB, 5, t_TB, rfl, by decide, i_TB, tb_at 90 rfl rfl, rfl, rfl, t_TB_ok, n_TB, rfl, rfl⟩
set_option maxRecDepth 100000 in
theorem fl_LY_72 : fl_ok "SheetTrees$Layout" 72 4 0 := ⟨R_TB, F_TB, 5, rfl, by decide, i_TB, Or.inr ⟨"SheetTrees", tb_at 91 rfl rfl⟩, rfl⟩
set_option maxRecDepth 100000 in
theorem fl_TB_11 : fl_ok "SheetTrees$Tables" 11 4 1 := ⟨R_TB, F_TB, 5, rfl, by decide, i_TB, Or.inl (tb_at 92 rfl rfl), rfl⟩
set_option maxRecDepth 100000 in
theorem fF_TB_11 : fF_ok "SheetTrees$Tables" 11 4 1 (t_TB 1) := ⟨R_TB, F_TB, 5, t_TB, rfl, by decide, i_TB, tb_at 92 rfl rfl, rfl, rfl, t_TB_ok, n_TB, rfl, rfl⟩
set_option maxRecDepth 100000 in
theorem fl_TB_15 : fl_ok "SheetTrees$Tables" 15 4 2 := ⟨R_TB, F_TB, 5, rfl, by decide, i_TB, Or.inl (tb_at 93 rfl rfl), rfl⟩
set_option maxRecDepth 100000 in
theorem fF_TB_15 : fF_ok "SheetTrees$Tables" 15 4 2 (t_TB 2) := ⟨R_TB, F_TB, 5, t_TB, rfl, by decide, i_TB, tb_at 93 rfl rfl, rfl, rfl, t_TB_ok, n_TB, rfl, rfl⟩
set_option maxRecDepth 100000 in
theorem fl_TB_18 : fl_ok "SheetTrees$Tables" 18 4 3 := ⟨R_TB, F_TB, 5, rfl, by decide, i_TB, Or.inl (tb_at 94 rfl rfl), rfl⟩
set_option maxRecDepth 100000 in
theorem fp_TB_18 : fp_ok "SheetTrees$Tables" 18 4 3 (t_TB 3) := ⟨R_TB, F_TB, 5, t_TB, rfl, by decide, i_TB, Or.inl (tb_at 94 rfl rfl), rfl, rfl, t_TB_ok, n_TB, rfl⟩
set_option maxRecDepth 100000 in
theorem fl_ST_286 : fl_ok "SheetTrees" 286 4 3 := ⟨R_TB, F_TB, 5, rfl, by decide, i_TB, Or.inr ⟨"SheetTrees", tb_at 95 rfl rfl⟩, rfl⟩
set_option maxRecDepth 100000 in
theorem fl_TB_22 : fl_ok "SheetTrees$Tables" 22 4 4 := ⟨R_TB, F_TB, 5, rfl, by decide, i_TB, Or.inl (tb_at 96 rfl rfl), rfl⟩
set_option maxRecDepth 100000 in
theorem fp_TB_22 : fp_ok "SheetTrees$Tables" 22 4 4 (t_TB 4) := ⟨R_TB, F_TB, 5, t_TB, rfl, by decide, i_TB, Or.inl (tb_at 96 rfl rfl), rfl, rfl, t_TB_ok, n_TB, rfl⟩
set_option maxRecDepth 100000 in
theorem fl_LY_31 : fl_ok "SheetTrees$Layout" 31 1 0 := ⟨R_LY, F_LY, 7, rfl, by decide, i_LY, Or.inl (tb_at 115 rfl rfl), rfl⟩
set_option maxRecDepth 100000 in
theorem fF_LY_31 : fF_ok "SheetTrees$Layout" 31 1 0 (t_LY 0) := ⟨R_LY, F_LY, 7, t_LY, rfl, by decide, i_LY, tb_at 115 rfl rfl, rfl, rfl, t_LY_ok, n_LY, rfl, rfl⟩
set_option maxRecDepth 100000 in
theorem fl_LY_9 : fl_ok "SheetTrees$Layout" 9 1 1 := ⟨R_LY, F_LY, 7, rfl, by decide, i_LY, Or.inl (tb_at 116 rfl rfl), rfl⟩
set_option maxRecDepth 100000 in
theorem fF_LY_9 : fF_ok "SheetTrees$Layout" 9 1 1 (t_LY 1) := ⟨R_LY, F_LY, 7, t_LY, rfl, by decide, i_LY, tb_at 116 rfl rfl, rfl, rfl, t_LY_ok, n_LY, rfl, rfl⟩
set_option maxRecDepth 100000 in
theorem fl_ST_272 : fl_ok "SheetTrees" 272 1 1 := ⟨R_LY, F_LY, 7, rfl, by decide, i_LY, Or.inr ⟨"SheetTrees", tb_at 117 rfl rfl⟩, rfl⟩
set_option maxRecDepth 100000 in
theorem fl_LY_15 : fl_ok "SheetTrees$Layout" 15 1 2 := ⟨R_LY, F_LY, 7, rfl, by decide, i_LY, Or.inl (tb_at 118 rfl rfl), rfl⟩
set_option maxRecDepth 100000 in
theorem fF_LY_15 : fF_ok "SheetTrees$Layout" 15 1 2 (t_LY 2) := ⟨R_LY, F_LY, 7, t_LY, rfl, by decide, i_LY, tb_at 118 rfl rfl, rfl, rfl, t_LY_ok, n_LY, rfl, rfl⟩
set_option maxRecDepth 100000 in
theorem fl_LY_18 : fl_ok "SheetTrees$Layout" 18 1 3 := ⟨R_LY, F_LY, 7, rfl, by decide, i_LY, Or.inl (tb_at 119 rfl rfl), rfl⟩
set_option maxRecDepth 100000 in
theorem fp_LY_18 : fp_ok "SheetTrees$Layout" 18 1 3 (t_LY 3) := ⟨R_LY, F_LY, 7, t_LY, rfl, by decide, i_LY, Or.inl (tb_at 119 rfl rfl), rfl, rfl, t_LY_ok, n_LY, rfl⟩
set_option maxRecDepth 100000 in
theorem fl_ST_269 : fl_ok "SheetTrees" 269 1 3 := ⟨R_LY, F_LY, 7, rfl, by decide, i_LY, Or.inr ⟨"SheetTrees", tb_at 120 rfl rfl⟩, rfl⟩
set_option maxRecDepth 100000 in
theorem fl_LY_22 : fl_ok "SheetTrees$Layout" 22 1 4 := ⟨R_LY, F_LY, 7, rfl, by decide, i_LY, Or.inl (tb_at 121 rfl rfl), rfl⟩
set_option maxRecDepth 100000 in
theorem fp_LY_22 : fp_ok "SheetTrees$Layout" 22 1 4 (t_LY 4) := ⟨R_LY, F_LY, 7, t_LY, rfl, by decide, i_LY, Or.inl (tb_at 121 rfl rfl), rfl, rfl, t_LY_ok, n_LY, rfl⟩
set_option maxRecDepth 100000 in
theorem fl_CS_55 : fl_ok "SheetTrees$CutSheet" 55 1 4 := ⟨R_LY, F_LY, 7, rfl, by decide, i_LY, Or.inr ⟨"SheetTrees", tb_at 122 rfl rfl⟩, rfl⟩
set_option maxRecDepth 100000 in
theorem fl_LY_25 : fl_ok "SheetTrees$Layout" 25 1 5 := ⟨R_LY, F_LY, 7, rfl, by decide, i_LY, Or.inl (tb_at 123 rfl rfl), rfl⟩
set_option maxRecDepth 100000 in
theorem fp_LY_25 : fp_ok "SheetTrees$Layout" 25 1 5 (t_LY 5) := ⟨R_LY, F_LY, 7, t_LY, rfl, by decide, i_LY, Or.inl (tb_at 123 rfl rfl), rfl, rfl, t_LY_ok, n_LY, rfl⟩
set_option maxRecDepth 100000 in
theorem fl_CS_58 : fl_ok "SheetTrees$CutSheet" 58 1 5 := ⟨R_LY, F_LY, 7, rfl, by decide, i_LY, Or.inr ⟨"SheetTrees", tb_at 124 rfl rfl⟩, rfl⟩
set_option maxRecDepth 100000 in
theorem fl_LY_28 : fl_ok "SheetTrees$Layout" 28 1 6 := ⟨R_LY, F_LY, 7, rfl, by decide, i_LY, Or.inl (tb_at 125 rfl rfl), rfl⟩
set_option maxRecDepth 100000 in
theorem fp_LY_28 : fp_ok "SheetTrees$Layout" 28 1 6 (t_LY 6) := ⟨R_LY, F_LY, 7, t_LY, rfl, by decide, i_LY, Or.inl (tb_at 125 rfl rfl), rfl, rfl, t_LY_ok, n_LY, rfl⟩
set_option maxRecDepth 100000 in
theorem fl_CS_59 : fl_ok "SheetTrees$CutSheet" 59 1 6 := ⟨R_LY, F_LY, 7, rfl, by decide, i_LY, Or.inr ⟨"SheetTrees", tb_at 126 rfl rfl⟩, rfl⟩
set_option maxRecDepth 100000 in
theorem fl_SH_7 : fl_ok "SheetTrees$Sheet" 7 3 0 := ⟨R_SH, F_SH, 5, rfl, by decide, i_SH, Or.inl (tb_at 147 rfl rfl), rfl⟩
set_option maxRecDepth 100000 in
theorem fp_SH_7 : fp_ok "SheetTrees$Sheet" 7 3 0 (t_SH 0) := ⟨R_SH, F_SH, 5, t_SH, rfl, by decide, i_SH, Or.inl (tb_at 147 rfl rfl), rfl, rfl, t_SH_ok, n_SH, rfl⟩
set_option maxRecDepth 100000 in
theorem fl_LY_41 : fl_ok "SheetTrees$Layout" 41 3 0 := ⟨R_SH, F_SH, 5, rfl, by decide, i_SH, Or.inr ⟨"SheetTrees", tb_at 148 rfl rfl⟩, rfl⟩
set_option maxRecDepth 100000 in
theorem fp_ST_109 : fp_ok "SheetTrees" 109 3 0 (t_SH 0) := ⟨R_SH, F_SH, 5, t_SH, rfl, by decide, i_SH, Or.inr ⟨"SheetTrees", tb_at 149 rfl rfl⟩, rfl, rfl, t_SH_ok, n_SH, rfl⟩
set_option maxRecDepth 100000 in
theorem fl_SH_13 : fl_ok "SheetTrees$Sheet" 13 3 1 := ⟨R_SH, F_SH, 5, rfl, by decide, i_SH, Or.inl (tb_at 150 rfl rfl), rfl⟩
set_option maxRecDepth 100000 in
theorem fp_SH_13 : fp_ok "SheetTrees$Sheet" 13 3 1 (t_SH 1) := ⟨R_SH, F_SH, 5, t_SH, rfl, by decide, i_SH, Or.inl (tb_at 150 rfl rfl), rfl, rfl, t_SH_ok, n_SH, rfl⟩
set_option maxRecDepth 100000 in
theorem fl_LY_46 : fl_ok "SheetTrees$Layout" 46 3 1 := ⟨R_SH, F_SH, 5, rfl, by decide, i_SH, Or.inr ⟨"SheetTrees", tb_at 151 rfl rfl⟩, rfl⟩
set_option maxRecDepth 100000 in
theorem fp_ST_112 : fp_ok "SheetTrees" 112 3 1 (t_SH 1) := ⟨R_SH, F_SH, 5, t_SH, rfl, by decide, i_SH, Or.inr ⟨"SheetTrees", tb_at 152 rfl rfl⟩, rfl, rfl, t_SH_ok, n_SH, rfl⟩
set_option maxRecDepth 100000 in
theorem fp_SH_16 : fp_ok "SheetTrees$Sheet" 16 3 2 (t_SH 2) := ⟨R_SH, F_SH, 5, t_SH, rfl, by decide, i_SH, Or.inl (tb_at 153 rfl rfl), rfl, rfl, t_SH_ok, n_SH, rfl⟩
set_option maxRecDepth 100000 in
theorem fl_CS_49 : fl_ok "SheetTrees$CutSheet" 49 3 2 := ⟨R_SH, F_SH, 5, rfl, by decide, i_SH, Or.inr ⟨"SheetTrees", tb_at 154 rfl rfl⟩, rfl⟩
set_option maxRecDepth 100000 in
theorem fl_ST_115 : fl_ok "SheetTrees" 115 3 2 := ⟨R_SH, F_SH, 5, rfl, by decide, i_SH, Or.inr ⟨"SheetTrees", tb_at 155 rfl rfl⟩, rfl⟩
set_option maxRecDepth 100000 in
theorem fp_ST_115 : fp_ok "SheetTrees" 115 3 2 (t_SH 2) := ⟨R_SH, F_SH, 5, t_SH, rfl, by decide, i_SH, Or.inr ⟨"SheetTrees", tb_at 155 rfl rfl⟩, rfl, rfl, t_SH_ok, n_SH, rfl⟩
set_option maxRecDepth 100000 in
theorem fp_SH_19 : fp_ok "SheetTrees$Sheet" 19 3 3 (t_SH 3) := ⟨R_SH, F_SH, 5, t_SH, rfl, by decide, i_SH, Or.inl (tb_at 156 rfl rfl), rfl, rfl, t_SH_ok, n_SH, rfl⟩
set_option maxRecDepth 100000 in
theorem fl_ST_118 : fl_ok "SheetTrees" 118 3 3 := ⟨R_SH, F_SH, 5, rfl, by decide, i_SH, Or.inr ⟨"SheetTrees", tb_at 157 rfl rfl⟩, rfl⟩
set_option maxRecDepth 100000 in
theorem fp_ST_118 : fp_ok "SheetTrees" 118 3 3 (t_SH 3) := ⟨R_SH, F_SH, 5, t_SH, rfl, by decide, i_SH, Or.inr ⟨"SheetTrees", tb_at 157 rfl rfl⟩, rfl, rfl, t_SH_ok, n_SH, rfl⟩
set_option maxRecDepth 100000 in
theorem fp_SH_22 : fp_ok "SheetTrees$Sheet" 22 3 4 (t_SH 4) := ⟨R_SH, F_SH, 5, t_SH, rfl, by decide, i_SH, Or.inl (tb_at 158 rfl rfl), rfl, rfl, t_SH_ok, n_SH, rfl⟩
set_option maxRecDepth 100000 in
theorem fl_ST_247 : fl_ok "SheetTrees" 247 3 4 := ⟨R_SH, F_SH, 5, rfl, by decide, i_SH, Or.inr ⟨"SheetTrees", tb_at 159 rfl rfl⟩, rfl⟩
set_option maxRecDepth 100000 in
theorem fp_ST_247 : fp_ok "SheetTrees" 247 3 4 (t_SH 4) := ⟨R_SH, F_SH, 5, t_SH, rfl, by decide, i_SH, Or.inr ⟨"SheetTrees", tb_at 159 rfl rfl⟩, rfl, rfl, t_SH_ok, n_SH, rfl⟩
set_option maxRecDepth 100000 in
theorem fl_PA_7 : fl_ok "SheetTrees$Part" 7 2 0 := ⟨R_PA, F_PA, 5, rfl, by decide, i_PA, Or.inl (tb_at 176 rfl rfl), rfl⟩
set_option maxRecDepth 100000 in
theorem fp_PA_7 : fp_ok "SheetTrees$Part" 7 2 0 (t_PA 0) := ⟨R_PA, F_PA, 5, t_PA, rfl, by decide, i_PA, Or.inl (tb_at 176 rfl rfl), rfl, rfl, t_PA_ok, n_PA, rfl⟩
set_option maxRecDepth 100000 in
theorem fp_ST_125 : fp_ok "SheetTrees" 125 2 0 (t_PA 0) := ⟨R_PA, F_PA, 5, t_PA, rfl, by decide, i_PA, Or.inr ⟨"SheetTrees", tb_at 177 rfl rfl⟩, rfl, rfl, t_PA_ok, n_PA, rfl⟩
set_option maxRecDepth 100000 in
theorem fl_TB_56 : fl_ok "SheetTrees$Tables" 56 2 0 := ⟨R_PA, F_PA, 5, rfl, by decide, i_PA, Or.inr ⟨"SheetTrees", tb_at 178 rfl rfl⟩, rfl⟩
set_option maxRecDepth 100000 in
theorem fl_PA_13 : fl_ok "SheetTrees$Part" 13 2 1 := ⟨R_PA, F_PA, 5, rfl, by decide, i_PA, Or.inl (tb_at 179 rfl rfl), rfl⟩
set_option maxRecDepth 100000 in
theorem fp_PA_13 : fp_ok "SheetTrees$Part" 13 2 1 (t_PA 1) := ⟨R_PA, F_PA, 5, t_PA, rfl, by decide, i_PA, Or.inl (tb_at 179 rfl rfl), rfl, rfl, t_PA_ok, n_PA, rfl⟩
set_option maxRecDepth 100000 in
theorem fp_ST_126 : fp_ok "SheetTrees" 126 2 1 (t_PA 1) := ⟨R_PA, F_PA, 5, t_PA, rfl, by decide, i_PA, Or.inr ⟨"SheetTrees", tb_at 180 rfl rfl⟩, rfl, rfl, t_PA_ok, n_PA, rfl⟩
set_option maxRecDepth 100000 in
theorem fl_TB_61 : fl_ok "SheetTrees$Tables" 61 2 1 := ⟨R_PA, F_PA, 5, rfl, by decide, i_PA, Or.inr ⟨"SheetTrees", tb_at 181 rfl rfl⟩, rfl⟩
set_option maxRecDepth 100000 in
theorem fp_PA_16 : fp_ok "SheetTrees$Part" 16 2 2 (t_PA 2) := ⟨R_PA, F_PA, 5, t_PA, rfl, by decide, i_PA, Or.inl (tb_at 182 rfl rfl), rfl, rfl, t_PA_ok, n_PA, rfl⟩
set_option maxRecDepth 100000 in
theorem fp_ST_127 : fp_ok "SheetTrees" 127 2 2 (t_PA 2) := ⟨R_PA, F_PA, 5, t_PA, rfl, by decide, i_PA, Or.inr ⟨"SheetTrees", tb_at 183 rfl rfl⟩, rfl, rfl, t_PA_ok, n_PA, rfl⟩
set_option maxRecDepth 100000 in
theorem fl_TB_68 : fl_ok "SheetTrees$Tables" 68 2 2 := ⟨R_PA, F_PA, 5, rfl, by decide, i_PA, Or.inr ⟨"SheetTrees", tb_at 184 rfl rfl⟩, rfl⟩
set_option maxRecDepth 100000 in
theorem fp_PA_20 : fp_ok "SheetTrees$Part" 20 2 3 (t_PA 3) := ⟨R_PA, F_PA, 5, t_PA, rfl, by decide, i_PA, Or.inl (tb_at 185 rfl rfl), rfl, rfl, t_PA_ok, n_PA, rfl⟩
set_option maxRecDepth 100000 in
theorem fl_ST_130 : fl_ok "SheetTrees" 130 2 3 := ⟨R_PA, F_PA, 5, rfl, by decide, i_PA, Or.inr ⟨"SheetTrees", tb_at 186 rfl rfl⟩, rfl⟩
set_option maxRecDepth 100000 in
theorem fp_ST_130 : fp_ok "SheetTrees" 130 2 3 (t_PA 3) := ⟨R_PA, F_PA, 5, t_PA, rfl, by decide, i_PA, Or.inr ⟨"SheetTrees", tb_at 186 rfl rfl⟩, rfl, rfl, t_PA_ok, n_PA, rfl⟩
set_option maxRecDepth 100000 in
theorem fp_PA_23 : fp_ok "SheetTrees$Part" 23 2 4 (t_PA 4) := ⟨R_PA, F_PA, 5, t_PA, rfl, by decide, i_PA, Or.inl (tb_at 187 rfl rfl), rfl, rfl, t_PA_ok, n_PA, rfl⟩
set_option maxRecDepth 100000 in
theorem fl_LY_75 : fl_ok "SheetTrees$Layout" 75 2 4 := ⟨R_PA, F_PA, 5, rfl, by decide, i_PA, Or.inr ⟨"SheetTrees", tb_at 188 rfl rfl⟩, rfl⟩
set_option maxRecDepth 100000 in
theorem fl_ST_221 : fl_ok "SheetTrees" 221 2 4 := ⟨R_PA, F_PA, 5, rfl, by decide, i_PA, Or.inr ⟨"SheetTrees", tb_at 189 rfl rfl⟩, rfl⟩
set_option maxRecDepth 100000 in
theorem fp_ST_221 : fp_ok "SheetTrees" 221 2 4 (t_PA 4) := ⟨R_PA, F_PA, 5, t_PA, rfl, by decide, i_PA, Or.inr ⟨"SheetTrees", tb_at 189 rfl rfl⟩, rfl, rfl, t_PA_ok, n_PA, rfl⟩
set_option maxRecDepth 100000 in
theorem fp_CS_7 : fp_ok "SheetTrees$CutSheet" 7 0 0 (t_CS 0) := ⟨R_CS, F_CS, 13, t_CS, rfl, by decide, i_CS, Or.inl (tb_at 206 rfl rfl), rfl, rfl, t_CS_ok, n_CS, rfl⟩
set_option maxRecDepth 100000 in
theorem fl_ST_169 : fl_ok "SheetTrees" 169 0 0 := ⟨R_CS, F_CS, 13, rfl, by decide, i_CS, Or.inr ⟨"SheetTrees", tb_at 207 rfl rfl⟩, rfl⟩
set_option maxRecDepth 100000 in
theorem fp_CS_13 : fp_ok "SheetTrees$CutSheet" 13 0 1 (t_CS 1) := ⟨R_CS, F_CS, 13, t_CS, rfl, by decide, i_CS, Or.inl (tb_at 208 rfl rfl), rfl, rfl, t_CS_ok, n_CS, rfl⟩
set_option maxRecDepth 100000 in
theorem fl_ST_226 : fl_ok "SheetTrees" 226 0 1 := ⟨R_CS, F_CS, 13, rfl, by decide, i_CS, Or.inr ⟨"SheetTrees", tb_at 209 rfl rfl⟩, rfl⟩
set_option maxRecDepth 100000 in
theorem fp_CS_16 : fp_ok "SheetTrees$CutSheet" 16 0 2 (t_CS 2) := ⟨R_CS, F_CS, 13, t_CS, rfl, by decide, i_CS, Or.inl (tb_at 210 rfl rfl), rfl, rfl, t_CS_ok, n_CS, rfl⟩
set_option maxRecDepth 100000 in
theorem fl_ST_227 : fl_ok "SheetTrees" 227 0 2 := ⟨R_CS, F_CS, 13, rfl, by decide, i_CS, Or.inr ⟨"SheetTrees", tb_at 211 rfl rfl⟩, rfl⟩
set_option maxRecDepth 100000 in
theorem fp_CS_19 : fp_ok "SheetTrees$CutSheet" 19 0 3 (t_CS 3) := ⟨R_CS, F_CS, 13, t_CS, rfl, by decide, i_CS, Or.inl (tb_at 212 rfl rfl), rfl, rfl, t_CS_ok, n_CS, rfl⟩
set_option maxRecDepth 100000 in
theorem fl_ST_179 : fl_ok "SheetTrees" 179 0 3 := ⟨R_CS, F_CS, 13, rfl, by decide, i_CS, Or.inr ⟨"SheetTrees", tb_at 213 rfl rfl⟩, rfl⟩
set_option maxRecDepth 100000 in
theorem fp_CS_22 : fp_ok "SheetTrees$CutSheet" 22 0 4 (t_CS 4) := ⟨R_CS, F_CS, 13, t_CS, rfl, by decide, i_CS, Or.inl (tb_at 214 rfl rfl), rfl, rfl, t_CS_ok, n_CS, rfl⟩
set_option maxRecDepth 100000 in
theorem fl_ST_176 : fl_ok "SheetTrees" 176 0 4 := ⟨R_CS, F_CS, 13, rfl, by decide, i_CS, Or.inr ⟨"SheetTrees", tb_at 215 rfl rfl⟩, rfl⟩
set_option maxRecDepth 100000 in
theorem fp_CS_25 : fp_ok "SheetTrees$CutSheet" 25 0 5 (t_CS 5) := ⟨R_CS, F_CS, 13, t_CS, rfl, by decide, i_CS, Or.inl (tb_at 216 rfl rfl), rfl, rfl, t_CS_ok, n_CS, rfl⟩
set_option maxRecDepth 100000 in
theorem fl_ST_182 : fl_ok "SheetTrees" 182 0 5 := ⟨R_CS, F_CS, 13, rfl, by decide, i_CS, Or.inr ⟨"SheetTrees", tb_at 217 rfl rfl⟩, rfl⟩
set_option maxRecDepth 100000 in
theorem fp_CS_28 : fp_ok "SheetTrees$CutSheet" 28 0 6 (t_CS 6) := ⟨R_CS, F_CS, 13, t_CS, rfl, by decide, i_CS, Or.inl (tb_at 218 rfl rfl), rfl, rfl, t_CS_ok, n_CS, rfl⟩
set_option maxRecDepth 100000 in
theorem fl_ST_289 : fl_ok "SheetTrees" 289 0 6 := ⟨R_CS, F_CS, 13, rfl, by decide, i_CS, Or.inr ⟨"SheetTrees", tb_at 219 rfl rfl⟩, rfl⟩
set_option maxRecDepth 100000 in
theorem fp_CS_31 : fp_ok "SheetTrees$CutSheet" 31 0 7 (t_CS 7) := ⟨R_CS, F_CS, 13, t_CS, rfl, by decide, i_CS, Or.inl (tb_at 220 rfl rfl), rfl, rfl, t_CS_ok, n_CS, rfl⟩
set_option maxRecDepth 100000 in
theorem fl_ST_198 : fl_ok "SheetTrees" 198 0 7 := ⟨R_CS, F_CS, 13, rfl, by decide, i_CS, Or.inr ⟨"SheetTrees", tb_at 221 rfl rfl⟩, rfl⟩
set_option maxRecDepth 100000 in
theorem fp_ST_198 : fp_ok "SheetTrees" 198 0 7 (t_CS 7) := ⟨R_CS, F_CS, 13, t_CS, rfl, by decide, i_CS, Or.inr ⟨"SheetTrees", tb_at 221 rfl rfl⟩, rfl, rfl, t_CS_ok, n_CS, rfl⟩
set_option maxRecDepth 100000 in
theorem fp_CS_34 : fp_ok "SheetTrees$CutSheet" 34 0 8 (t_CS 8) := ⟨R_CS, F_CS, 13, t_CS, rfl, by decide, i_CS, Or.inl (tb_at 222 rfl rfl), rfl, rfl, t_CS_ok, n_CS, rfl⟩
set_option maxRecDepth 100000 in
theorem fl_ST_172 : fl_ok "SheetTrees" 172 0 8 := ⟨R_CS, F_CS, 13, rfl, by decide, i_CS, Or.inr ⟨"SheetTrees", tb_at 223 rfl rfl⟩, rfl⟩
set_option maxRecDepth 100000 in
theorem fp_ST_172 : fp_ok "SheetTrees" 172 0 8 (t_CS 8) := ⟨R_CS, F_CS, 13, t_CS, rfl, by decide, i_CS, Or.inr ⟨"SheetTrees", tb_at 223 rfl rfl⟩, rfl, rfl, t_CS_ok, n_CS, rfl⟩
set_option maxRecDepth 100000 in
theorem fp_CS_37 : fp_ok "SheetTrees$CutSheet" 37 0 9 (t_CS 9) := ⟨R_CS, F_CS, 13, t_CS, rfl, by decide, i_CS, Or.inl (tb_at 224 rfl rfl), rfl, rfl, t_CS_ok, n_CS, rfl⟩
set_option maxRecDepth 100000 in
theorem fl_ST_173 : fl_ok "SheetTrees" 173 0 9 := ⟨R_CS, F_CS, 13, rfl, by decide, i_CS, Or.inr ⟨"SheetTrees", tb_at 225 rfl rfl⟩, rfl⟩
set_option maxRecDepth 100000 in
theorem fp_ST_173 : fp_ok "SheetTrees" 173 0 9 (t_CS 9) := ⟨R_CS, F_CS, 13, t_CS, rfl, by decide, i_CS, Or.inr ⟨"SheetTrees", tb_at 225 rfl rfl⟩, rfl, rfl, t_CS_ok, n_CS, rfl⟩
set_option maxRecDepth 100000 in
theorem fp_CS_40 : fp_ok "SheetTrees$CutSheet" 40 0 10 (t_CS 10) := ⟨R_CS, F_CS, 13, t_CS, rfl, by decide, i_CS, Or.inl (tb_at 226 rfl rfl), rfl, rfl, t_CS_ok, n_CS, rfl⟩
set_option maxRecDepth 100000 in
theorem fl_ST_215 : fl_ok "SheetTrees" 215 0 10 := ⟨R_CS, F_CS, 13, rfl, by decide, i_CS, Or.inr ⟨"SheetTrees", tb_at 227 rfl rfl⟩, rfl⟩
set_option maxRecDepth 100000 in
theorem fp_ST_215 : fp_ok "SheetTrees" 215 0 10 (t_CS 10) := ⟨R_CS, F_CS, 13, t_CS, rfl, by decide, i_CS, Or.inr ⟨"SheetTrees", tb_at 227 rfl rfl⟩, rfl, rfl, t_CS_ok, n_CS, rfl⟩
set_option maxRecDepth 100000 in
theorem fp_CS_43 : fp_ok "SheetTrees$CutSheet" 43 0 11 (t_CS 11) := ⟨R_CS, F_CS, 13, t_CS, rfl, by decide, i_CS, Or.inl (tb_at 228 rfl rfl), rfl, rfl, t_CS_ok, n_CS, rfl⟩
set_option maxRecDepth 100000 in
theorem fl_ST_185 : fl_ok "SheetTrees" 185 0 11 := ⟨R_CS, F_CS, 13, rfl, by decide, i_CS, Or.inr ⟨"SheetTrees", tb_at 229 rfl rfl⟩, rfl⟩
set_option maxRecDepth 100000 in
theorem fp_ST_185 : fp_ok "SheetTrees" 185 0 11 (t_CS 11) := ⟨R_CS, F_CS, 13, t_CS, rfl, by decide, i_CS, Or.inr ⟨"SheetTrees", tb_at 229 rfl rfl⟩, rfl, rfl, t_CS_ok, n_CS, rfl⟩
set_option maxRecDepth 100000 in
theorem fp_CS_46 : fp_ok "SheetTrees$CutSheet" 46 0 12 (t_CS 12) := ⟨R_CS, F_CS, 13, t_CS, rfl, by decide, i_CS, Or.inl (tb_at 230 rfl rfl), rfl, rfl, t_CS_ok, n_CS, rfl⟩
set_option maxRecDepth 100000 in
theorem fl_ST_186 : fl_ok "SheetTrees" 186 0 12 := ⟨R_CS, F_CS, 13, rfl, by decide, i_CS, Or.inr ⟨"SheetTrees", tb_at 231 rfl rfl⟩, rfl⟩
set_option maxRecDepth 100000 in
theorem fp_ST_186 : fp_ok "SheetTrees" 186 0 12 (t_CS 12) := ⟨R_CS, F_CS, 13, t_CS, rfl, by decide, i_CS, Or.inr ⟨"SheetTrees", tb_at 231 rfl rfl⟩, rfl, rfl, t_CS_ok, n_CS, rfl⟩
set_option maxRecDepth 100000 in
theorem fl_ST_58 : fl_ok "SheetTrees" 58 5 0 := ⟨R_ST, F_ST, 15, rfl, by decide, i_ST, Or.inl (tb_at 259 rfl rfl), rfl⟩
set_option maxRecDepth 100000 in
theorem fF_ST_58 : fF_ok "SheetTrees" 58 5 0 (t_ST 0) := ⟨R_ST, F_ST, 15, t_ST, rfl, by decide, i_ST, tb_at 259 rfl rfl, rfl, rfl, t_ST_ok, n_ST, rfl, rfl⟩
set_option maxRecDepth 100000 in
theorem fl_ST_61 : fl_ok "SheetTrees" 61 5 1 := ⟨R_ST, F_ST, 15, rfl, by decide, i_ST, Or.inl (tb_at 260 rfl rfl), rfl⟩
set_option maxRecDepth 100000 in
theorem fF_ST_61 : fF_ok "SheetTrees" 61 5 1 (t_ST 1) := ⟨R_ST, F_ST, 15, t_ST, rfl, by decide, i_ST, tb_at 260 rfl rfl, rfl, rfl, t_ST_ok, n_ST, rfl, rfl⟩
set_option maxRecDepth 100000 in
theorem fl_ST_11 : fl_ok "SheetTrees" 11 5 2 := ⟨R_ST, F_ST, 15, rfl, by decide, i_ST, Or.inl (tb_at 261 rfl rfl), rfl⟩
set_option maxRecDepth 100000 in
theorem fF_ST_11 : fF_ok "SheetTrees" 11 5 2 (t_ST 2) := ⟨R_ST, F_ST, 15, t_ST, rfl, by decide, i_ST, tb_at 261 rfl rfl, rfl, rfl, t_ST_ok, n_ST, rfl, rfl⟩
set_option maxRecDepth 100000 in
theorem fl_ST_17 : fl_ok "SheetTrees" 17 5 3 := ⟨R_ST, F_ST, 15, rfl, by decide, i_ST, Or.inl (tb_at 262 rfl rfl), rfl⟩
set_option maxRecDepth 100000 in
theorem fF_ST_17 : fF_ok "SheetTrees" 17 5 3 (t_ST 3) := ⟨R_ST, F_ST, 15, t_ST, rfl, by decide, i_ST, tb_at 262 rfl rfl, rfl, rfl, t_ST_ok, n_ST, rfl, rfl⟩
set_option maxRecDepth 100000 in
theorem fl_ST_23 : fl_ok "SheetTrees" 23 5 4 := ⟨R_ST, F_ST, 15, rfl, by decide, i_ST, Or.inl (tb_at 263 rfl rfl), rfl⟩
set_option maxRecDepth 100000 in
theorem fF_ST_23 : fF_ok "SheetTrees" 23 5 4 (t_ST 4) := ⟨R_ST, F_ST, 15, t_ST, rfl, by decide, i_ST, tb_at 263 rfl rfl, rfl, rfl, t_ST_ok, n_ST, rfl, rfl⟩
set_option maxRecDepth 100000 in
theorem fl_ST_27 : fl_ok "SheetTrees" 27 5 5 := ⟨R_ST, F_ST, 15, rfl, by decide, i_ST, Or.inl (tb_at 264 rfl rfl), rfl⟩
set_option maxRecDepth 100000 in
theorem fF_ST_27 : fF_ok "SheetTrees" 27 5 5 (t_ST 5) := ⟨R_ST, F_ST, 15, t_ST, rfl, by decide, i_ST, tb_at 264 rfl rfl, rfl, rfl, t_ST_ok, n_ST, rfl, rfl⟩
set_option maxRecDepth 100000 in
theorem fl_ST_31 : fl_ok "SheetTrees" 31 5 6 := ⟨R_ST, F_ST, 15, rfl, by decide, i_ST, Or.inl (tb_at 265 rfl rfl), rfl⟩
set_option maxRecDepth 100000 in
theorem fF_ST_31 : fF_ok "SheetTrees" 31 5 6 (t_ST 6) := ⟨R_ST, F_ST, 15, t_ST, rfl, by decide, i_ST, tb_at 265 rfl rfl, rfl, rfl, t_ST_ok, n_ST, rfl, rfl⟩
set_option maxRecDepth 100000 in
theorem fl_ST_69 : fl_ok "SheetTrees" 69 5 7 := ⟨R_ST, F_ST, 15, rfl, by decide, i_ST, Or.inl (tb_at 266 rfl rfl), rfl⟩
set_option maxRecDepth 100000 in
theorem fF_ST_69 : fF_ok "SheetTrees" 69 5 7 (t_ST 7) := ⟨R_ST, F_ST, 15, t_ST, rfl, by decide, i_ST, tb_at 266 rfl rfl, rfl, rfl, t_ST_ok, n_ST, rfl, rfl⟩
set_option maxRecDepth 100000 in
theorem fl_ST_78 : fl_ok "SheetTrees" 78 5 8 := ⟨R_ST, F_ST, 15, rfl, by decide, i_ST, Or.inl (tb_at 267 rfl rfl), rfl⟩
set_option maxRecDepth 100000 in
theorem fF_ST_78 : fF_ok "SheetTrees" 78 5 8 (t_ST 8) := ⟨R_ST, F_ST, 15, t_ST, rfl, by decide, i_ST, tb_at 267 rfl rfl, rfl, rfl, t_ST_ok, n_ST, rfl, rfl⟩
set_option maxRecDepth 100000 in
theorem fl_ST_34 : fl_ok "SheetTrees" 34 5 9 := ⟨R_ST, F_ST, 15, rfl, by decide, i_ST, Or.inl (tb_at 268 rfl rfl), rfl⟩
set_option maxRecDepth 100000 in
theorem fp_ST_34 : fp_ok "SheetTrees" 34 5 9 (t_ST 9) := ⟨R_ST, F_ST, 15, t_ST, rfl, by decide, i_ST, Or.inl (tb_at 268 rfl rfl), rfl, rfl, t_ST_ok, n_ST, rfl⟩
set_option maxRecDepth 100000 in
theorem fl_ST_38 : fl_ok "SheetTrees" 38 5 10 := ⟨R_ST, F_ST, 15, rfl, by decide, i_ST, Or.inl (tb_at 269 rfl rfl), rfl⟩
set_option maxRecDepth 100000 in
theorem fp_ST_38 : fp_ok "SheetTrees" 38 5 10 (t_ST 10) := ⟨R_ST, F_ST, 15, t_ST, rfl, by decide, i_ST, Or.inl (tb_at 269 rfl rfl), rfl, rfl, t_ST_ok, n_ST, rfl⟩
set_option maxRecDepth 100000 in
theorem fl_ST_41 : fl_ok "SheetTrees" 41 5 11 := ⟨R_ST, F_ST, 15, rfl, by decide, i_ST, Or.inl (tb_at 270 rfl rfl), rfl⟩
set_option maxRecDepth 100000 in
theorem fp_ST_41 : fp_ok "SheetTrees" 41 5 11 (t_ST 11) := ⟨R_ST, F_ST, 15, t_ST, rfl, by decide, i_ST, Or.inl (tb_at 270 rfl rfl), rfl, rfl, t_ST_ok, n_ST, rfl⟩
set_option maxRecDepth 100000 in
theorem fl_ST_44 : fl_ok "SheetTrees" 44 5 12 := ⟨R_ST, F_ST, 15, rfl, by decide, i_ST, Or.inl (tb_at 271 rfl rfl), rfl⟩
set_option maxRecDepth 100000 in
theorem fp_ST_44 : fp_ok "SheetTrees" 44 5 12 (t_ST 12) := ⟨R_ST, F_ST, 15, t_ST, rfl, by decide, i_ST, Or.inl (tb_at 271 rfl rfl), rfl, rfl, t_ST_ok, n_ST, rfl⟩
set_option maxRecDepth 100000 in
theorem fl_ST_47 : fl_ok "SheetTrees" 47 5 13 := ⟨R_ST, F_ST, 15, rfl, by decide, i_ST, Or.inl (tb_at 272 rfl rfl), rfl⟩
set_option maxRecDepth 100000 in
theorem fp_ST_47 : fp_ok "SheetTrees" 47 5 13 (t_ST 13) := ⟨R_ST, F_ST, 15, t_ST, rfl, by decide, i_ST, Or.inl (tb_at 272 rfl rfl), rfl, rfl, t_ST_ok, n_ST, rfl⟩
set_option maxRecDepth 100000 in
theorem fl_ST_50 : fl_ok "SheetTrees" 50 5 14 := ⟨R_ST, F_ST, 15, rfl, by decide, i_ST, Or.inl (tb_at 273 rfl rfl), rfl⟩
set_option maxRecDepth 100000 in
theorem fp_ST_50 : fp_ok "SheetTrees" 50 5 14 (t_ST 14) := ⟨R_ST, F_ST, 15, t_ST, rfl, by decide, i_ST, Or.inl (tb_at 273 rfl rfl), rfl, rfl, t_ST_ok, n_ST, rfl⟩
set_option maxRecDepth 100000 in
theorem fl_MO_99 : fl_ok "SheetTreesModel" 99 6 0 := ⟨R_MO, F_MO, 34, rfl, by decide, i_MO, Or.inl (tb_at 657 rfl rfl), rfl⟩
set_option maxRecDepth 100000 in
theorem fp_MO_99 : fp_ok "SheetTreesModel" 99 6 0 (t_MO 0) := ⟨R_MO, F_MO, 34, t_MO, rfl, by decide, i_MO, Or.inl (tb_at 657 rfl rfl), rfl, rfl, t_MO_ok, n_MO, rfl⟩
set_option maxRecDepth 100000 in
theorem fl_MO_89 : fl_ok "SheetTreesModel" 89 6 1 := ⟨R_MO, F_MO, 34, rfl, by decide, i_MO, Or.inl (tb_at 658 rfl rfl), rfl⟩
set_option maxRecDepth 100000 in
theorem fF_MO_89 : fF_ok "SheetTreesModel" 89 6 1 (t_MO 1) := ⟨R_MO, F_MO, 34, t_MO, rfl, by decide, i_MO, tb_at 658 rfl rfl, rfl, rfl, t_MO_ok, n_MO, rfl, rfl⟩
set_option maxRecDepth 100000 in
theorem fl_MO_93 : fl_ok "SheetTreesModel" 93 6 2 := ⟨R_MO, F_MO, 34, rfl, by decide, i_MO, Or.inl (tb_at 659 rfl rfl), rfl⟩
set_option maxRecDepth 100000 in
theorem fF_MO_93 : fF_ok "SheetTreesModel" 93 6 2 (t_MO 2) := ⟨R_MO, F_MO, 34, t_MO, rfl, by decide, i_MO, tb_at 659 rfl rfl, rfl, rfl, t_MO_ok, n_MO, rfl, rfl⟩
set_option maxRecDepth 100000 in
theorem fl_MO_96 : fl_ok "SheetTreesModel" 96 6 3 := ⟨R_MO, F_MO, 34, rfl, by decide, i_MO, Or.inl (tb_at 660 rfl rfl), rfl⟩
set_option maxRecDepth 100000 in
theorem fF_MO_96 : fF_ok "SheetTreesModel" 96 6 3 (t_MO 3) := ⟨R_MO, F_MO, 34, t_MO, rfl, by decide, i_MO, tb_at 660 rfl rfl, rfl, rfl, t_MO_ok, n_MO, rfl, rfl⟩
set_option maxRecDepth 100000 in
theorem fl_MO_106 : fl_ok "SheetTreesModel" 106 6 4 := ⟨R_MO, F_MO, 34, rfl, by decide, i_MO, Or.inl (tb_at 661 rfl rfl), rfl⟩
set_option maxRecDepth 100000 in
theorem fp_MO_106 : fp_ok "SheetTreesModel" 106 6 4 (t_MO 4) := ⟨R_MO, F_MO, 34, t_MO, rfl, by decide, i_MO, Or.inl (tb_at 661 rfl rfl), rfl, rfl, t_MO_ok, n_MO, rfl⟩
set_option maxRecDepth 100000 in
theorem fl_MO_7 : fl_ok "SheetTreesModel" 7 6 5 := ⟨R_MO, F_MO, 34, rfl, by decide, i_MO, Or.inl (tb_at 662 rfl rfl), rfl⟩
set_option maxRecDepth 100000 in
theorem fF_MO_7 : fF_ok "SheetTreesModel" 7 6 5 (t_MO 5) := ⟨R_MO, F_MO, 34, t_MO, rfl, by decide, i_MO, tb_at 662 rfl rfl, rfl, rfl, t_MO_ok, n_MO, rfl, rfl⟩
set_option maxRecDepth 100000 in
theorem fl_MO_13 : fl_ok "SheetTreesModel" 13 6 6 := ⟨R_MO, F_MO, 34, rfl, by decide, i_MO, Or.inl (tb_at 663 rfl rfl), rfl⟩
set_option maxRecDepth 100000 in
theorem fF_MO_13 : fF_ok "SheetTreesModel" 13 6 6 (t_MO 6) := ⟨R_MO, F_MO, 34, t_MO, rfl, by decide, i_MO, tb_at 663 rfl rfl, rfl, rfl, t_MO_ok, n_MO, rfl, rfl⟩
set_option maxRecDepth 100000 in
theorem fl_MO_16 : fl_ok "SheetTreesModel" 16 6 7 := ⟨R_MO, F_MO, 34, rfl, by decide, i_MO, Or.inl (tb_at 664 rfl rfl), rfl⟩
set_option maxRecDepth 100000 in
theorem fF_MO_16 : fF_ok "SheetTreesModel" 16 6 7 (t_MO 7) := ⟨R_MO, F_MO, 34, t_MO, rfl, by decide, i_MO, tb_at 664 rfl rfl, rfl, rfl, t_MO_ok, n_MO, rfl, rfl⟩
set_option maxRecDepth 100000 in
theorem fl_MO_19 : fl_ok "SheetTreesModel" 19 6 8 := ⟨R_MO, F_MO, 34, rfl, by decide, i_MO, Or.inl (tb_at 665 rfl rfl), rfl⟩
set_option maxRecDepth 100000 in
theorem fF_MO_19 : fF_ok "SheetTreesModel" 19 6 8 (t_MO 8) := ⟨R_MO, F_MO, 34, t_MO, rfl, by decide, i_MO, tb_at 665 rfl rfl, rfl, rfl, t_MO_ok, n_MO, rfl, rfl⟩
set_option maxRecDepth 100000 in
theorem fl_MO_113 : fl_ok "SheetTreesModel" 113 6 9 := ⟨R_MO, F_MO, 34, rfl, by decide, i_MO, Or.inl (tb_at 666 rfl rfl), rfl⟩
set_option maxRecDepth 100000 in
theorem fp_MO_113 : fp_ok "SheetTreesModel" 113 6 9 (t_MO 9) := ⟨R_MO, F_MO, 34, t_MO, rfl, by decide, i_MO, Or.inl (tb_at 666 rfl rfl), rfl, rfl, t_MO_ok, n_MO, rfl⟩
set_option maxRecDepth 100000 in
theorem fl_MO_22 : fl_ok "SheetTreesModel" 22 6 10 := ⟨R_MO, F_MO, 34, rfl, by decide, i_MO, Or.inl (tb_at 667 rfl rfl), rfl⟩
set_option maxRecDepth 100000 in
theorem fF_MO_22 : fF_ok "SheetTreesModel" 22 6 10 (t_MO 10) := ⟨R_MO, F_MO, 34, t_MO, rfl, by decide, i_MO, tb_at 667 rfl rfl, rfl, rfl, t_MO_ok, n_MO, rfl, rfl⟩
set_option maxRecDepth 100000 in
theorem fl_MO_25 : fl_ok "SheetTreesModel" 25 6 11 := ⟨R_MO, F_MO, 34, rfl, by decide, i_MO, Or.inl (tb_at 668 rfl rfl), rfl⟩
set_option maxRecDepth 100000 in
theorem fF_MO_25 : fF_ok "SheetTreesModel" 25 6 11 (t_MO 11) := ⟨R_MO, F_MO, 34, t_MO, rfl, by decide, i_MO, tb_at 668 rfl rfl, rfl, rfl, t_MO_ok, n_MO, rfl, rfl⟩
set_option maxRecDepth 100000 in
theorem fl_MO_28 : fl_ok "SheetTreesModel" 28 6 12 := ⟨R_MO, F_MO, 34, rfl, by decide, i_MO, Or.inl (tb_at 669 rfl rfl), rfl⟩
set_option maxRecDepth 100000 in
theorem fF_MO_28 : fF_ok "SheetTreesModel" 28 6 12 (t_MO 12) := ⟨R_MO, F_MO, 34, t_MO, rfl, by decide, i_MO, tb_at 669 rfl rfl, rfl, rfl, t_MO_ok, n_MO, rfl, rfl⟩
set_option maxRecDepth 100000 in
theorem fl_MO_31 : fl_ok "SheetTreesModel" 31 6 13 := ⟨R_MO, F_MO, 34, rfl, by decide, i_MO, Or.inl (tb_at 670 rfl rfl), rfl⟩
set_option maxRecDepth 100000 in
theorem fF_MO_31 : fF_ok "SheetTreesModel" 31 6 13 (t_MO 13) := ⟨R_MO, F_MO, 34, t_MO, rfl, by decide, i_MO, tb_at 670 rfl rfl, rfl, rfl, t_MO_ok, n_MO, rfl, rfl⟩
set_option maxRecDepth 100000 in
theorem fl_MO_35 : fl_ok "SheetTreesModel" 35 6 14 := ⟨R_MO, F_MO, 34, rfl, by decide, i_MO, Or.inl (tb_at 671 rfl rfl), rfl⟩
set_option maxRecDepth 100000 in
theorem fF_MO_35 : fF_ok "SheetTreesModel" 35 6 14 (t_MO 14) := ⟨R_MO, F_MO, 34, t_MO, rfl, by decide, i_MO, tb_at 671 rfl rfl, rfl, rfl, t_MO_ok, n_MO, rfl, rfl⟩
set_option maxRecDepth 100000 in
theorem fl_MO_38 : fl_ok "SheetTreesModel" 38 6 15 := ⟨R_MO, F_MO, 34, rfl, by decide, i_MO, Or.inl (tb_at 672 rfl rfl), rfl⟩
set_option maxRecDepth 100000 in
theorem fF_MO_38 : fF_ok "SheetTreesModel" 38 6 15 (t_MO 15) := ⟨R_MO, F_MO, 34, t_MO, rfl, by decide, i_MO, tb_at 672 rfl rfl, rfl, rfl, t_MO_ok, n_MO, rfl, rfl⟩
set_option maxRecDepth 100000 in
theorem fl_MO_41 : fl_ok "SheetTreesModel" 41 6 16 := ⟨R_MO, F_MO, 34, rfl, by decide, i_MO, Or.inl (tb_at 673 rfl rfl), rfl⟩
set_option maxRecDepth 100000 in
theorem fF_MO_41 : fF_ok "SheetTreesModel" 41 6 16 (t_MO 16) := ⟨R_MO, F_MO, 34, t_MO, rfl, by decide, i_MO, tb_at 673 rfl rfl, rfl, rfl, t_MO_ok, n_MO, rfl, rfl⟩
set_option maxRecDepth 100000 in
theorem fl_MO_44 : fl_ok "SheetTreesModel" 44 6 17 := ⟨R_MO, F_MO, 34, rfl, by decide, i_MO, Or.inl (tb_at 674 rfl rfl), rfl⟩
set_option maxRecDepth 100000 in
theorem fF_MO_44 : fF_ok "SheetTreesModel" 44 6 17 (t_MO 17) := ⟨R_MO, F_MO, 34, t_MO, rfl, by decide, i_MO, tb_at 674 rfl rfl, rfl, rfl, t_MO_ok, n_MO, rfl, rfl⟩
set_option maxRecDepth 100000 in
theorem fl_MO_47 : fl_ok "SheetTreesModel" 47 6 18 := ⟨R_MO, F_MO, 34, rfl, by decide, i_MO, Or.inl (tb_at 675 rfl rfl), rfl⟩
set_option maxRecDepth 100000 in
theorem fF_MO_47 : fF_ok "SheetTreesModel" 47 6 18 (t_MO 18) := ⟨R_MO, F_MO, 34, t_MO, rfl, by decide, i_MO, tb_at 675 rfl rfl, rfl, rfl, t_MO_ok, n_MO, rfl, rfl⟩
set_option maxRecDepth 100000 in
theorem fl_MO_50 : fl_ok "SheetTreesModel" 50 6 19 := ⟨R_MO, F_MO, 34, rfl, by decide, i_MO, Or.inl (tb_at 676 rfl rfl), rfl⟩
set_option maxRecDepth 100000 in
theorem fF_MO_50 : fF_ok "SheetTreesModel" 50 6 19 (t_MO 19) := ⟨R_MO, F_MO, 34, t_MO, rfl, by decide, i_MO, tb_at 676 rfl rfl, rfl, rfl, t_MO_ok, n_MO, rfl, rfl⟩
set_option maxRecDepth 100000 in
theorem fl_MO_53 : fl_ok "SheetTreesModel" 53 6 20 := ⟨R_MO, F_MO, 34, rfl, by decide, i_MO, Or.inl (tb_at 677 rfl rfl), rfl⟩
set_option maxRecDepth 100000 in
theorem fF_MO_53 : fF_ok "SheetTreesModel" 53 6 20 (t_MO 20) := ⟨R_MO, F_MO, 34, t_MO, rfl, by decide, i_MO, tb_at 677 rfl rfl, rfl, rfl, t_MO_ok, n_MO, rfl, rfl⟩
set_option maxRecDepth 100000 in
theorem fl_MO_109 : fl_ok "SheetTreesModel" 109 6 21 := ⟨R_MO, F_MO, 34, rfl, by decide, i_MO, Or.inl (tb_at 678 rfl rfl), rfl⟩
set_option maxRecDepth 100000 in
theorem fp_MO_109 : fp_ok "SheetTreesModel" 109 6 21 (t_MO 21) := ⟨R_MO, F_MO, 34, t_MO, rfl, by decide, i_MO, Or.inl (tb_at 678 rfl rfl), rfl, rfl, t_MO_ok, n_MO, rfl⟩
set_option maxRecDepth 100000 in
theorem fl_MO_152 : fl_ok "SheetTreesModel" 152 6 22 := ⟨R_MO, F_MO, 34, rfl, by decide, i_MO, Or.inl (tb_at 679 rfl rfl), rfl⟩
set_option maxRecDepth 100000 in
theorem fp_MO_152 : fp_ok "SheetTreesModel" 152 6 22 (t_MO 22) := ⟨R_MO, F_MO, 34, t_MO, rfl, by decide, i_MO, Or.inl (tb_at 679 rfl rfl), rfl, rfl, t_MO_ok, n_MO, rfl⟩
set_option maxRecDepth 100000 in
theorem fl_MO_56 : fl_ok "SheetTreesModel" 56 6 23 := ⟨R_MO, F_MO, 34, rfl, by decide, i_MO, Or.inl (tb_at 680 rfl rfl), rfl⟩
set_option maxRecDepth 100000 in
theorem fF_MO_56 : fF_ok "SheetTreesModel" 56 6 23 (t_MO 23) := ⟨R_MO, F_MO, 34, t_MO, rfl, by decide, i_MO, tb_at 680 rfl rfl, rfl, rfl, t_MO_ok, n_MO, rfl, rfl⟩
set_option maxRecDepth 100000 in
theorem fl_MO_59 : fl_ok "SheetTreesModel" 59 6 24 := ⟨R_MO, F_MO, 34, rfl, by decide, i_MO, Or.inl (tb_at 681 rfl rfl), rfl⟩
set_option maxRecDepth 100000 in
theorem fF_MO_59 : fF_ok "SheetTreesModel" 59 6 24 (t_MO 24) := ⟨R_MO, F_MO, 34, t_MO, rfl, by decide, i_MO, tb_at 681 rfl rfl, rfl, rfl, t_MO_ok, n_MO, rfl, rfl⟩
set_option maxRecDepth 100000 in
theorem fl_MO_62 : fl_ok "SheetTreesModel" 62 6 25 := ⟨R_MO, F_MO, 34, rfl, by decide, i_MO, Or.inl (tb_at 682 rfl rfl), rfl⟩
set_option maxRecDepth 100000 in
theorem fF_MO_62 : fF_ok "SheetTreesModel" 62 6 25 (t_MO 25) := ⟨R_MO, F_MO, 34, t_MO, rfl, by decide, i_MO, tb_at 682 rfl rfl, rfl, rfl, t_MO_ok, n_MO, rfl, rfl⟩
set_option maxRecDepth 100000 in
theorem fl_MO_65 : fl_ok "SheetTreesModel" 65 6 26 := ⟨R_MO, F_MO, 34, rfl, by decide, i_MO, Or.inl (tb_at 683 rfl rfl), rfl⟩
set_option maxRecDepth 100000 in
theorem fF_MO_65 : fF_ok "SheetTreesModel" 65 6 26 (t_MO 26) := ⟨R_MO, F_MO, 34, t_MO, rfl, by decide, i_MO, tb_at 683 rfl rfl, rfl, rfl, t_MO_ok, n_MO, rfl, rfl⟩
set_option maxRecDepth 100000 in
theorem fl_MO_68 : fl_ok "SheetTreesModel" 68 6 27 := ⟨R_MO, F_MO, 34, rfl, by decide, i_MO, Or.inl (tb_at 684 rfl rfl), rfl⟩
set_option maxRecDepth 100000 in
theorem fF_MO_68 : fF_ok "SheetTreesModel" 68 6 27 (t_MO 27) := ⟨R_MO, F_MO, 34, t_MO, rfl, by decide, i_MO, tb_at 684 rfl rfl, rfl, rfl, t_MO_ok, n_MO, rfl, rfl⟩
set_option maxRecDepth 100000 in
theorem fl_MO_71 : fl_ok "SheetTreesModel" 71 6 28 := ⟨R_MO, F_MO, 34, rfl, by decide, i_MO, Or.inl (tb_at 685 rfl rfl), rfl⟩
set_option maxRecDepth 100000 in
theorem fF_MO_71 : fF_ok "SheetTreesModel" 71 6 28 (t_MO 28) := ⟨R_MO, F_MO, 34, t_MO, rfl, by decide, i_MO, tb_at 685 rfl rfl, rfl, rfl, t_MO_ok, n_MO, rfl, rfl⟩
set_option maxRecDepth 100000 in
theorem fl_MO_74 : fl_ok "SheetTreesModel" 74 6 29 := ⟨R_MO, F_MO, 34, rfl, by decide, i_MO, Or.inl (tb_at 686 rfl rfl), rfl⟩
set_option maxRecDepth 100000 in
theorem fF_MO_74 : fF_ok "SheetTreesModel" 74 6 29 (t_MO 29) := ⟨R_MO, F_MO, 34, t_MO, rfl, by decide, i_MO, tb_at 686 rfl rfl, rfl, rfl, t_MO_ok, n_MO, rfl, rfl⟩
set_option maxRecDepth 100000 in
theorem fl_MO_77 : fl_ok "SheetTreesModel" 77 6 30 := ⟨R_MO, F_MO, 34, rfl, by decide, i_MO, Or.inl (tb_at 687 rfl rfl), rfl⟩
set_option maxRecDepth 100000 in
theorem fF_MO_77 : fF_ok "SheetTreesModel" 77 6 30 (t_MO 30) := ⟨R_MO, F_MO, 34, t_MO, rfl, by decide, i_MO, tb_at 687 rfl rfl, rfl, rfl, t_MO_ok, n_MO, rfl, rfl⟩
set_option maxRecDepth 100000 in
theorem fl_MO_80 : fl_ok "SheetTreesModel" 80 6 31 := ⟨R_MO, F_MO, 34, rfl, by decide, i_MO, Or.inl (tb_at 688 rfl rfl), rfl⟩
set_option maxRecDepth 100000 in
theorem fF_MO_80 : fF_ok "SheetTreesModel" 80 6 31 (t_MO 31) := ⟨R_MO, F_MO, 34, t_MO, rfl, by decide, i_MO, tb_at 688 rfl rfl, rfl, rfl, t_MO_ok, n_MO, rfl, rfl⟩
set_option maxRecDepth 100000 in
theorem fl_MO_83 : fl_ok "SheetTreesModel" 83 6 32 := ⟨R_MO, F_MO, 34, rfl, by decide, i_MO, Or.inl (tb_at 689 rfl rfl), rfl⟩
set_option maxRecDepth 100000 in
theorem fF_MO_83 : fF_ok "SheetTreesModel" 83 6 32 (t_MO 32) := ⟨R_MO, F_MO, 34, t_MO, rfl, by decide, i_MO, tb_at 689 rfl rfl, rfl, rfl, t_MO_ok, n_MO, rfl, rfl⟩
set_option maxRecDepth 100000 in
theorem fl_MO_86 : fl_ok "SheetTreesModel" 86 6 33 := ⟨R_MO, F_MO, 34, rfl, by decide, i_MO, Or.inl (tb_at 690 rfl rfl), rfl⟩
set_option maxRecDepth 100000 in
theorem fF_MO_86 : fF_ok "SheetTreesModel" 86 6 33 (t_MO 33) := ⟨R_MO, F_MO, 34, t_MO, rfl, by decide, i_MO, tb_at 690 rfl rfl, rfl, rfl, t_MO_ok, n_MO, rfl, rfl⟩
set_option maxRecDepth 100000 in
theorem lk_LW_54 : lk_I "SheetTreesLaw" 54 y_ST_init b_ST_init 5 3 := ⟨Or.inl (tb_at 63 rfl rfl), ⟨tb_at 64 rfl rfl, rfl⟩, tb_at 45 rfl rfl, tb_at 65 rfl rfl, ⟨by decide, by decide⟩, by decide +kernel⟩
set_option maxRecDepth 100000 in
theorem lk_ST_54 : lk_S "SheetTrees" 54 y_ST_nearest b_ST_nearest 3 (some .int) 3 := ⟨Or.inl (tb_at 75 rfl rfl), tb_at 76 rfl rfl, tb_at 45 rfl rfl, tb_at 77 rfl rfl, ⟨by decide, by decide⟩, by decide +kernel⟩
set_option maxRecDepth 100000 in
theorem lk_ST_238 : lk_S "SheetTrees" 238 y_MA_min b_MA_min 2 (some .int) 2 := ⟨Or.inl (tb_at 78 rfl rfl), tb_at 79 rfl rfl, tb_at 46 rfl rfl, tb_at 80 rfl rfl, ⟨by decide, by decide⟩, by decide +kernel⟩
set_option maxRecDepth 100000 in
theorem lk_ST_232 : lk_S "SheetTrees" 232 y_MA_max b_MA_max 2 (some .int) 2 := ⟨Or.inl (tb_at 81 rfl rfl), tb_at 82 rfl rfl, tb_at 46 rfl rfl, tb_at 83 rfl rfl, ⟨by decide, by decide⟩, by decide +kernel⟩
set_option maxRecDepth 100000 in
theorem lk_ST_66 : lk_I "SheetTrees" 66 y_TB_init b_TB_init 2 1 := ⟨Or.inr ⟨"SheetTrees", tb_at 86 rfl rfl⟩, ⟨tb_at 87 rfl rfl, rfl⟩, tb_at 47 rfl rfl, tb_at 88 rfl rfl, ⟨by decide, by decide⟩, by decide +kernel⟩
set_option maxRecDepth 100000 in
theorem lk_ST_75 : lk_I "SheetTrees" 75 y_LY_init b_LY_init 2 1 := ⟨Or.inr ⟨"SheetTrees", tb_at 111 rfl rfl⟩, ⟨tb_at 112 rfl rfl, rfl⟩, tb_at 48 rfl rfl, tb_at 113 rfl rfl, ⟨by decide, by decide⟩, by decide +kernel⟩
set_option maxRecDepth 100000 in
theorem lk_ST_82 : lk_I "SheetTrees" 82 y_SH_init b_SH_init 1 0 := ⟨Or.inr ⟨"SheetTrees", tb_at 143 rfl rfl⟩, ⟨tb_at 144 rfl rfl, rfl⟩, tb_at 49 rfl rfl, tb_at 145 rfl rfl, ⟨by decide, by decide⟩, by decide +kernel⟩
set_option maxRecDepth 100000 in
theorem lk_ST_83 : lk_I "SheetTrees" 83 y_PA_init b_PA_init 1 0 := ⟨Or.inr ⟨"SheetTrees", tb_at 172 rfl rfl⟩, ⟨tb_at 173 rfl rfl, rfl⟩, tb_at 50 rfl rfl, tb_at 174 rfl rfl, ⟨by decide, by decide⟩, by decide +kernel⟩
set_option maxRecDepth 100000 in
theorem lk_ST_84 : lk_I "SheetTrees" 84 y_CS_init b_CS_init 1 0 := ⟨Or.inr ⟨"SheetTrees", tb_at 202 rfl rfl⟩, ⟨tb_at 203 rfl rfl, rfl⟩, tb_at 51 rfl rfl, tb_at 204 rfl rfl, ⟨by decide, by decide⟩, by decide +kernel⟩
set_option maxRecDepth 100000 in
theorem lk_LW_79 : lk_V "SheetTreesLaw" 79 y_ST_run b_ST_run 3 (some .int) 0 := ⟨Or.inl (tb_at 305 rfl rfl), ⟨tb_at 306 rfl rfl, tb_at 307 rfl rfl⟩, tb_at 45 rfl rfl, tb_at 308 rfl rfl, ⟨by decide, by decide⟩, by decide +kernel⟩
set_option maxRecDepth 100000 in
theorem lk_ST_153 : lk_V "SheetTrees" 153 y_ST_startRun b_ST_startRun 2 none 0 := ⟨Or.inl (tb_at 309 rfl rfl), ⟨tb_at 311 rfl rfl, tb_at 0 rfl rfl⟩, tb_at 45 rfl rfl, tb_at 312 rfl rfl, ⟨by decide, by decide⟩, by decide +kernel⟩
set_option maxRecDepth 100000 in
theorem lk_ST_156 : lk_V "SheetTrees" 156 y_ST_partsStillWanted b_ST_partsStillWanted 3 (some .int) 0 := ⟨Or.inl (tb_at 313 rfl rfl), ⟨tb_at 315 rfl rfl, tb_at 1 rfl rfl⟩, tb_at 45 rfl rfl, tb_at 316 rfl rfl, ⟨by decide, by decide⟩, by decide +kernel⟩
set_option maxRecDepth 100000 in
theorem lk_ST_145 : lk_V "SheetTrees" 145 y_TB_fill b_TB_fill 5 none 3 := ⟨Or.inr ⟨"SheetTrees", tb_at 317 rfl rfl⟩, ⟨tb_at 319 rfl rfl, tb_at 2 rfl rfl⟩, tb_at 47 rfl rfl, tb_at 320 rfl rfl, ⟨by decide, by decide⟩, by decide +kernel⟩
set_option maxRecDepth 100000 in
theorem lk_TB_28 : lk_V "SheetTrees$Tables" 28 y_TB_fillWithoutCuts b_TB_fillWithoutCuts 3 none 1 := ⟨Or.inl (tb_at 321 rfl rfl), ⟨tb_at 323 rfl rfl, tb_at 3 rfl rfl⟩, tb_at 47 rfl rfl, tb_at 324 rfl rfl, ⟨by decide, by decide⟩, by decide +kernel⟩
set_option maxRecDepth 100000 in
theorem lk_TB_50 : lk_S "SheetTrees$Tables" 50 y_AR_fill b_AR_fill 4 none 2 := ⟨Or.inl (tb_at 325 rfl rfl), tb_at 326 rfl rfl, tb_at 59 rfl rfl, tb_at 327 rfl rfl, ⟨by decide, by decide⟩, by decide +kernel⟩
set_option maxRecDepth 100000 in
theorem lk_TB_64 : lk_V "SheetTrees$Tables" 64 y_TB_putPart b_TB_putPart 5 none 3 := ⟨Or.inl (tb_at 328 rfl rfl), ⟨tb_at 330 rfl rfl, tb_at 4 rfl rfl⟩, tb_at 47 rfl rfl, tb_at 331 rfl rfl, ⟨by decide, by decide⟩, by decide +kernel⟩
set_option maxRecDepth 100000 in
theorem lk_TB_40 : lk_S "SheetTrees$Tables" 40 y_TB_placeOf b_TB_placeOf 4 (some .int) 4 := ⟨Or.inl (tb_at 332 rfl rfl), tb_at 333 rfl rfl, tb_at 47 rfl rfl, tb_at 334 rfl rfl, ⟨by decide, by decide⟩, by decide +kernel⟩
set_option maxRecDepth 100000 in
theorem lk_TB_72 : lk_V "SheetTrees$Tables" 72 y_TB_put b_TB_put 4 none 3 := ⟨Or.inl (tb_at 335 rfl rfl), ⟨tb_at 337 rfl rfl, tb_at 5 rfl rfl⟩, tb_at 47 rfl rfl, tb_at 338 rfl rfl, ⟨by decide, by decide⟩, by decide +kernel⟩
set_option maxRecDepth 100000 in
theorem lk_TB_32 : lk_V "SheetTrees$Tables" 32 y_TB_fillStage b_TB_fillStage 4 none 1 := ⟨Or.inl (tb_at 339 rfl rfl), ⟨tb_at 341 rfl rfl, tb_at 6 rfl rfl⟩, tb_at 47 rfl rfl, tb_at 342 rfl rfl, ⟨by decide, by decide⟩, by decide +kernel⟩
set_option maxRecDepth 100000 in
theorem lk_TB_75 : lk_V "SheetTrees$Tables" 75 y_TB_choose b_TB_choose 15 none 4 := ⟨Or.inl (tb_at 343 rfl rfl), ⟨tb_at 345 rfl rfl, tb_at 7 rfl rfl⟩, tb_at 47 rfl rfl, tb_at 346 rfl rfl, ⟨by decide, by decide⟩, by decide +kernel⟩
set_option maxRecDepth 100000 in
theorem lk_TB_43 : lk_V "SheetTrees$Tables" 43 y_TB_scoreAt b_TB_scoreAt 2 (some .int) 1 := ⟨Or.inl (tb_at 347 rfl rfl), ⟨tb_at 349 rfl rfl, tb_at 8 rfl rfl⟩, tb_at 47 rfl rfl, tb_at 350 rfl rfl, ⟨by decide, by decide⟩, by decide +kernel⟩
set_option maxRecDepth 100000 in
theorem lk_TB_47 : lk_V "SheetTrees$Tables" 47 y_TB_choiceAt b_TB_choiceAt 2 (some .int) 1 := ⟨Or.inl (tb_at 351 rfl rfl), ⟨tb_at 353 rfl rfl, tb_at 9 rfl rfl⟩, tb_at 47 rfl rfl, tb_at 354 rfl rfl, ⟨by decide, by decide⟩, by decide +kernel⟩
set_option maxRecDepth 100000 in
theorem lk_TB_79 : lk_S "SheetTrees$Tables" 79 y_MA_max b_MA_max 2 (some .int) 2 := ⟨Or.inl (tb_at 355 rfl rfl), tb_at 82 rfl rfl, tb_at 46 rfl rfl, tb_at 83 rfl rfl, ⟨by decide, by decide⟩, by decide +kernel⟩
set_option maxRecDepth 100000 in
theorem lk_ST_159 : lk_V "SheetTrees" 159 y_ST_bestSheet b_ST_bestSheet 7 (some .int) 0 := ⟨Or.inl (tb_at 356 rfl rfl), ⟨tb_at 358 rfl rfl, tb_at 10 rfl rfl⟩, tb_at 45 rfl rfl, tb_at 359 rfl rfl, ⟨by decide, by decide⟩, by decide +kernel⟩
set_option maxRecDepth 100000 in
theorem lk_ST_250 : lk_V "SheetTrees" 250 y_LY_lay b_LY_lay 5 none 2 := ⟨Or.inr ⟨"SheetTrees", tb_at 360 rfl rfl⟩, ⟨tb_at 362 rfl rfl, tb_at 11 rfl rfl⟩, tb_at 48 rfl rfl, tb_at 363 rfl rfl, ⟨by decide, by decide⟩, by decide +kernel⟩
set_option maxRecDepth 100000 in
theorem lk_LY_35 : lk_S "SheetTrees$Layout" 35 y_AR_fill b_AR_fill 4 none 2 := ⟨Or.inl (tb_at 364 rfl rfl), tb_at 326 rfl rfl, tb_at 59 rfl rfl, tb_at 327 rfl rfl, ⟨by decide, by decide⟩, by decide +kernel⟩
set_option maxRecDepth 100000 in
theorem lk_LY_49 : lk_V "SheetTrees$Layout" 49 y_TB_scoreOf b_TB_scoreOf 5 (some .int) 4 := ⟨Or.inr ⟨"SheetTrees", tb_at 365 rfl rfl⟩, ⟨tb_at 367 rfl rfl, tb_at 12 rfl rfl⟩, tb_at 47 rfl rfl, tb_at 368 rfl rfl, ⟨by decide, by decide⟩, by decide +kernel⟩
set_option maxRecDepth 100000 in
theorem lk_LY_55 : lk_V "SheetTrees$Layout" 55 y_LY_layTree b_LY_layTree 17 none 6 := ⟨Or.inl (tb_at 369 rfl rfl), ⟨tb_at 371 rfl rfl, tb_at 13 rfl rfl⟩, tb_at 48 rfl rfl, tb_at 372 rfl rfl, ⟨by decide, by decide⟩, by decide +kernel⟩
set_option maxRecDepth 100000 in
theorem lk_LY_59 : lk_V "SheetTrees$Layout" 59 y_TB_choiceOf b_TB_choiceOf 5 (some .int) 4 := ⟨Or.inr ⟨"SheetTrees", tb_at 373 rfl rfl⟩, ⟨tb_at 375 rfl rfl, tb_at 14 rfl rfl⟩, tb_at 47 rfl rfl, tb_at 376 rfl rfl, ⟨by decide, by decide⟩, by decide +kernel⟩
set_option maxRecDepth 100000 in
theorem lk_LY_62 : lk_S "SheetTrees$Layout" 62 y_PI_of b_PI_of 5 (some .int) 5 := ⟨Or.inr ⟨"SheetTrees", tb_at 377 rfl rfl⟩, tb_at 378 rfl rfl, tb_at 60 rfl rfl, tb_at 379 rfl rfl, ⟨by decide, by decide⟩, by decide +kernel⟩
set_option maxRecDepth 100000 in
theorem lk_LY_68 : lk_V "SheetTrees$Layout" 68 y_LY_addPiece b_LY_addPiece 3 none 2 := ⟨Or.inl (tb_at 380 rfl rfl), ⟨tb_at 382 rfl rfl, tb_at 15 rfl rfl⟩, tb_at 48 rfl rfl, tb_at 383 rfl rfl, ⟨by decide, by decide⟩, by decide +kernel⟩
set_option maxRecDepth 100000 in
theorem lk_ST_254 : lk_V "SheetTrees" 254 y_LY_areaToTake b_LY_areaToTake 4 (some .int) 1 := ⟨Or.inr ⟨"SheetTrees", tb_at 384 rfl rfl⟩, ⟨tb_at 386 rfl rfl, tb_at 16 rfl rfl⟩, tb_at 48 rfl rfl, tb_at 387 rfl rfl, ⟨by decide, by decide⟩, by decide +kernel⟩
set_option maxRecDepth 100000 in
theorem lk_LY_80 : lk_S "SheetTrees$Layout" 80 y_MA_min b_MA_min 2 (some .int) 2 := ⟨Or.inl (tb_at 388 rfl rfl), tb_at 79 rfl rfl, tb_at 46 rfl rfl, tb_at 80 rfl rfl, ⟨by decide, by decide⟩, by decide +kernel⟩
set_option maxRecDepth 100000 in
theorem lk_LY_86 : lk_V "SheetTrees$Layout" 86 y_PA_area b_PA_area 1 (some .int) 0 := ⟨Or.inr ⟨"SheetTrees", tb_at 389 rfl rfl⟩, ⟨tb_at 391 rfl rfl, tb_at 17 rfl rfl⟩, tb_at 50 rfl rfl, tb_at 392 rfl rfl, ⟨by decide, by decide⟩, by decide +kernel⟩
set_option maxRecDepth 100000 in
theorem lk_ST_162 : lk_V "SheetTrees" 162 y_ST_cutOneOf b_ST_cutOneOf 4 none 1 := ⟨Or.inl (tb_at 393 rfl rfl), ⟨tb_at 395 rfl rfl, tb_at 18 rfl rfl⟩, tb_at 45 rfl rfl, tb_at 396 rfl rfl, ⟨by decide, by decide⟩, by decide +kernel⟩
set_option maxRecDepth 100000 in
theorem lk_ST_258 : lk_V "SheetTrees" 258 y_CS_start b_CS_start 4 none 3 := ⟨Or.inr ⟨"SheetTrees", tb_at 397 rfl rfl⟩, ⟨tb_at 399 rfl rfl, tb_at 19 rfl rfl⟩, tb_at 51 rfl rfl, tb_at 400 rfl rfl, ⟨by decide, by decide⟩, by decide +kernel⟩
set_option maxRecDepth 100000 in
theorem lk_CS_52 : lk_V "SheetTrees$CutSheet" 52 y_SH_area b_SH_area 1 (some .int) 0 := ⟨Or.inr ⟨"SheetTrees", tb_at 401 rfl rfl⟩, ⟨tb_at 403 rfl rfl, tb_at 20 rfl rfl⟩, tb_at 49 rfl rfl, tb_at 404 rfl rfl, ⟨by decide, by decide⟩, by decide +kernel⟩
set_option maxRecDepth 100000 in
theorem lk_CS_60 : lk_V "SheetTrees$CutSheet" 60 y_LY_partsUsed b_LY_partsUsed 3 (some .int) 0 := ⟨Or.inr ⟨"SheetTrees", tb_at 405 rfl rfl⟩, ⟨tb_at 407 rfl rfl, tb_at 21 rfl rfl⟩, tb_at 48 rfl rfl, tb_at 408 rfl rfl, ⟨by decide, by decide⟩, by decide +kernel⟩
set_option maxRecDepth 100000 in
theorem lk_ST_262 : lk_V "SheetTrees" 262 y_ST_takePieces b_ST_takePieces 5 none 1 := ⟨Or.inl (tb_at 409 rfl rfl), ⟨tb_at 411 rfl rfl, tb_at 22 rfl rfl⟩, tb_at 45 rfl rfl, tb_at 412 rfl rfl, ⟨by decide, by decide⟩, by decide +kernel⟩
set_option maxRecDepth 100000 in
theorem lk_ST_205 : lk_S "SheetTrees" 205 y_PI_field b_PI_field 2 (some .int) 2 := ⟨Or.inr ⟨"SheetTrees", tb_at 413 rfl rfl⟩, tb_at 414 rfl rfl, tb_at 60 rfl rfl, tb_at 415 rfl rfl, ⟨by decide, by decide⟩, by decide +kernel⟩
set_option maxRecDepth 100000 in
theorem lk_ST_275 : lk_V "SheetTrees" 275 y_ST_keepRest b_ST_keepRest 2 none 1 := ⟨Or.inl (tb_at 416 rfl rfl), ⟨tb_at 418 rfl rfl, tb_at 23 rfl rfl⟩, tb_at 45 rfl rfl, tb_at 419 rfl rfl, ⟨by decide, by decide⟩, by decide +kernel⟩
set_option maxRecDepth 100000 in
theorem lk_ST_282 : lk_S "SheetTrees" 282 y_PI_isAtLeast b_PI_isAtLeast 2 (some .boolean) 2 := ⟨Or.inr ⟨"SheetTrees", tb_at 420 rfl rfl⟩, tb_at 421 rfl rfl, tb_at 60 rfl rfl, tb_at 422 rfl rfl, ⟨by decide, by decide⟩, by decide +kernel⟩
set_option maxRecDepth 100000 in
theorem lk_PI_9 : lk_S "SheetTrees$Piece" 9 y_PI_field b_PI_field 2 (some .int) 2 := ⟨Or.inl (tb_at 423 rfl rfl), tb_at 414 rfl rfl, tb_at 60 rfl rfl, tb_at 415 rfl rfl, ⟨by decide, by decide⟩, by decide +kernel⟩
set_option maxRecDepth 100000 in
theorem lk_ST_278 : lk_V "SheetTrees" 278 y_ST_takePart b_ST_takePart 4 none 3 := ⟨Or.inl (tb_at 424 rfl rfl), ⟨tb_at 426 rfl rfl, tb_at 24 rfl rfl⟩, tb_at 45 rfl rfl, tb_at 427 rfl rfl, ⟨by decide, by decide⟩, by decide +kernel⟩
set_option maxRecDepth 100000 in
theorem lk_ST_237 : lk_V "SheetTrees" 237 y_PA_area b_PA_area 1 (some .int) 0 := ⟨Or.inr ⟨"SheetTrees", tb_at 428 rfl rfl⟩, ⟨tb_at 391 rfl rfl, tb_at 17 rfl rfl⟩, tb_at 50 rfl rfl, tb_at 392 rfl rfl, ⟨by decide, by decide⟩, by decide +kernel⟩
set_option maxRecDepth 100000 in
theorem lk_ST_266 : lk_V "SheetTrees" 266 y_ST_firstAlike b_ST_firstAlike 5 (some .int) 1 := ⟨Or.inl (tb_at 429 rfl rfl), ⟨tb_at 431 rfl rfl, tb_at 25 rfl rfl⟩, tb_at 45 rfl rfl, tb_at 432 rfl rfl, ⟨by decide, by decide⟩, by decide +kernel⟩
set_option maxRecDepth 100000 in
theorem lk_LW_100 : lk_V "SheetTreesLaw" 100 y_ST_bound b_ST_bound 4 (some .int) 0 := ⟨Or.inl (tb_at 433 rfl rfl), ⟨tb_at 434 rfl rfl, tb_at 435 rfl rfl⟩, tb_at 45 rfl rfl, tb_at 436 rfl rfl, ⟨by decide, by decide⟩, by decide +kernel⟩
set_option maxRecDepth 100000 in
theorem lk_ST_230 : lk_V "SheetTrees" 230 y_SH_area b_SH_area 1 (some .int) 0 := ⟨Or.inr ⟨"SheetTrees", tb_at 437 rfl rfl⟩, ⟨tb_at 403 rfl rfl, tb_at 20 rfl rfl⟩, tb_at 49 rfl rfl, tb_at 404 rfl rfl, ⟨by decide, by decide⟩, by decide +kernel⟩
set_option maxRecDepth 100000 in
theorem lk_LW_48 : lk_S "SheetTreesLaw" 48 y_LW_cell b_LW_cell 2 (some .int) 2 := ⟨Or.inl (tb_at 438 rfl rfl), tb_at 439 rfl rfl, tb_at 44 rfl rfl, tb_at 440 rfl rfl, ⟨by decide, by decide⟩, by decide +kernel⟩
set_option maxRecDepth 100000 in
theorem lk_LW_7 : lk_V "SheetTreesLaw" 7 y_ST_sheet b_ST_sheet 6 (some .int) 4 := ⟨Or.inl (tb_at 446 rfl rfl), ⟨tb_at 447 rfl rfl, tb_at 448 rfl rfl⟩, tb_at 45 rfl rfl, tb_at 449 rfl rfl, ⟨by decide, by decide⟩, by decide +kernel⟩
set_option maxRecDepth 100000 in
theorem lk_ST_85 : lk_S "SheetTrees" 85 y_ST_isSide b_ST_isSide 1 (some .boolean) 1 := ⟨Or.inl (tb_at 450 rfl rfl), tb_at 451 rfl rfl, tb_at 45 rfl rfl, tb_at 452 rfl rfl, ⟨by decide, by decide⟩, by decide +kernel⟩
set_option maxRecDepth 100000 in
theorem lk_ST_96 : lk_S "SheetTrees" 96 y_ST_isWithin b_ST_isWithin 3 (some .boolean) 3 := ⟨Or.inl (tb_at 453 rfl rfl), tb_at 454 rfl rfl, tb_at 45 rfl rfl, tb_at 455 rfl rfl, ⟨by decide, by decide⟩, by decide +kernel⟩
set_option maxRecDepth 100000 in
theorem lk_LW_17 : lk_V "SheetTreesLaw" 17 y_ST_part b_ST_part 6 (some .int) 4 := ⟨Or.inl (tb_at 545 rfl rfl), ⟨tb_at 546 rfl rfl, tb_at 547 rfl rfl⟩, tb_at 45 rfl rfl, tb_at 548 rfl rfl, ⟨by decide, by decide⟩, by decide +kernel⟩
set_option maxRecDepth 100000 in
theorem lk_LW_21 : lk_V "SheetTreesLaw" 21 y_ST_count b_ST_count 5 (some .int) 2 := ⟨Or.inl (tb_at 555 rfl rfl), ⟨tb_at 556 rfl rfl, tb_at 557 rfl rfl⟩, tb_at 45 rfl rfl, tb_at 558 rfl rfl, ⟨by decide, by decide⟩, by decide +kernel⟩
set_option maxRecDepth 100000 in
theorem lk_ST_133 : lk_V "SheetTrees" 133 y_ST_partAt b_ST_partAt 2 (some (.object "SheetTrees$Part")) 1 := ⟨Or.inl (tb_at 559 rfl rfl), ⟨tb_at 561 rfl rfl, tb_at 27 rfl rfl⟩, tb_at 45 rfl rfl, tb_at 562 rfl rfl, ⟨by decide, by decide⟩, by decide +kernel⟩
set_option maxRecDepth 100000 in
theorem lk_LW_27 : lk_V "SheetTreesLaw" 27 y_ST_worth b_ST_worth 5 (some .int) 4 := ⟨Or.inl (tb_at 582 rfl rfl), ⟨tb_at 583 rfl rfl, tb_at 584 rfl rfl⟩, tb_at 45 rfl rfl, tb_at 585 rfl rfl, ⟨by decide, by decide⟩, by decide +kernel⟩
set_option maxRecDepth 100000 in
theorem lk_ST_141 : lk_V "SheetTrees" 141 y_ST_partsTold b_ST_partsTold 3 (some .int) 0 := ⟨Or.inl (tb_at 588 rfl rfl), ⟨tb_at 590 rfl rfl, tb_at 28 rfl rfl⟩, tb_at 45 rfl rfl, tb_at 591 rfl rfl, ⟨by decide, by decide⟩, by decide +kernel⟩
set_option maxRecDepth 100000 in
theorem lk_ST_149 : lk_V "SheetTrees" 149 y_TB_valueOf b_TB_valueOf 5 (some .int) 4 := ⟨Or.inr ⟨"SheetTrees", tb_at 592 rfl rfl⟩, ⟨tb_at 594 rfl rfl, tb_at 29 rfl rfl⟩, tb_at 47 rfl rfl, tb_at 595 rfl rfl, ⟨by decide, by decide⟩, by decide +kernel⟩
set_option maxRecDepth 100000 in
theorem lk_TB_36 : lk_V "SheetTrees$Tables" 36 y_TB_scoreOf b_TB_scoreOf 5 (some .int) 4 := ⟨Or.inl (tb_at 596 rfl rfl), ⟨tb_at 367 rfl rfl, tb_at 12 rfl rfl⟩, tb_at 47 rfl rfl, tb_at 368 rfl rfl, ⟨by decide, by decide⟩, by decide +kernel⟩
set_option maxRecDepth 100000 in
theorem lk_LW_30 : lk_V "SheetTreesLaw" 30 y_ST_cut b_ST_cut 4 (some .int) 2 := ⟨Or.inl (tb_at 600 rfl rfl), ⟨tb_at 601 rfl rfl, tb_at 602 rfl rfl⟩, tb_at 45 rfl rfl, tb_at 603 rfl rfl, ⟨by decide, by decide⟩, by decide +kernel⟩
set_option maxRecDepth 100000 in
theorem lk_ST_165 : lk_V "SheetTrees" 165 y_ST_cutSheetAt b_ST_cutSheetAt 2 (some (.object "SheetTrees$CutSheet")) 1 := ⟨Or.inl (tb_at 604 rfl rfl), ⟨tb_at 606 rfl rfl, tb_at 30 rfl rfl⟩, tb_at 45 rfl rfl, tb_at 607 rfl rfl, ⟨by decide, by decide⟩, by decide +kernel⟩
set_option maxRecDepth 100000 in
theorem lk_ST_218 : lk_V "SheetTrees" 218 y_ST_needRun b_ST_needRun 1 none 0 := ⟨Or.inl (tb_at 608 rfl rfl), ⟨tb_at 610 rfl rfl, tb_at 31 rfl rfl⟩, tb_at 45 rfl rfl, tb_at 611 rfl rfl, ⟨by decide, by decide⟩, by decide +kernel⟩
set_option maxRecDepth 100000 in
theorem lk_LW_33 : lk_V "SheetTreesLaw" 33 y_ST_taken b_ST_taken 5 (some .int) 3 := ⟨Or.inl (tb_at 618 rfl rfl), ⟨tb_at 619 rfl rfl, tb_at 620 rfl rfl⟩, tb_at 45 rfl rfl, tb_at 621 rfl rfl, ⟨by decide, by decide⟩, by decide +kernel⟩
set_option maxRecDepth 100000 in
theorem lk_ST_201 : lk_S "SheetTrees" 201 y_ST_pieceAt b_ST_pieceAt 2 (some .int) 2 := ⟨Or.inl (tb_at 624 rfl rfl), tb_at 625 rfl rfl, tb_at 45 rfl rfl, tb_at 626 rfl rfl, ⟨by decide, by decide⟩, by decide +kernel⟩
set_option maxRecDepth 100000 in
theorem lk_LW_37 : lk_V "SheetTreesLaw" 37 y_ST_rest b_ST_rest 5 (some .int) 3 := ⟨Or.inl (tb_at 630 rfl rfl), ⟨tb_at 631 rfl rfl, tb_at 632 rfl rfl⟩, tb_at 45 rfl rfl, tb_at 633 rfl rfl, ⟨by decide, by decide⟩, by decide +kernel⟩
set_option maxRecDepth 100000 in
theorem lk_LW_40 : lk_V "SheetTreesLaw" 40 y_ST_left b_ST_left 2 (some .int) 1 := ⟨Or.inl (tb_at 639 rfl rfl), ⟨tb_at 640 rfl rfl, tb_at 641 rfl rfl⟩, tb_at 45 rfl rfl, tb_at 642 rfl rfl, ⟨by decide, by decide⟩, by decide +kernel⟩
set_option maxRecDepth 100000 in
theorem lk_LW_44 : lk_V "SheetTreesLaw" 44 y_ST_all b_ST_all 6 (some .long) 1 := ⟨Or.inl (tb_at 646 rfl rfl), ⟨tb_at 647 rfl rfl, tb_at 648 rfl rfl⟩, tb_at 45 rfl rfl, tb_at 649 rfl rfl, ⟨by decide, by decide⟩, by decide +kernel⟩
set_option maxRecDepth 100000 in
theorem lk_LW_59 : lk_I "SheetTreesLaw" 59 y_MO_init b_MO_init 4 3 := ⟨Or.inl (tb_at 653 rfl rfl), ⟨tb_at 654 rfl rfl, rfl⟩, tb_at 52 rfl rfl, tb_at 655 rfl rfl, ⟨by decide, by decide⟩, by decide +kernel⟩
set_option maxRecDepth 100000 in
theorem lk_LW_64 : lk_V "SheetTreesLaw" 64 y_MO_thrown b_MO_thrown 1 (some .int) 0 := ⟨Or.inl (tb_at 761 rfl rfl), ⟨tb_at 762 rfl rfl, tb_at 763 rfl rfl⟩, tb_at 52 rfl rfl, tb_at 764 rfl rfl, ⟨by decide, by decide⟩, by decide +kernel⟩
set_option maxRecDepth 100000 in
theorem lk_LW_63 : lk_V "SheetTreesLaw" 63 y_MO_sheet b_MO_sheet 5 (some .int) 4 := ⟨Or.inl (tb_at 765 rfl rfl), ⟨tb_at 766 rfl rfl, tb_at 767 rfl rfl⟩, tb_at 52 rfl rfl, tb_at 768 rfl rfl, ⟨by decide, by decide⟩, by decide +kernel⟩
set_option maxRecDepth 100000 in
theorem lk_MO_102 : lk_S "SheetTreesModel" 102 y_MO_in b_MO_in 3 (some .boolean) 3 := ⟨Or.inl (tb_at 769 rfl rfl), tb_at 770 rfl rfl, tb_at 52 rfl rfl, tb_at 771 rfl rfl, ⟨by decide, by decide⟩, by decide +kernel⟩
set_option maxRecDepth 100000 in
theorem lk_LW_71 : lk_V "SheetTreesLaw" 71 y_MO_part b_MO_part 5 (some .int) 4 := ⟨Or.inl (tb_at 772 rfl rfl), ⟨tb_at 773 rfl rfl, tb_at 774 rfl rfl⟩, tb_at 52 rfl rfl, tb_at 775 rfl rfl, ⟨by decide, by decide⟩, by decide +kernel⟩
set_option maxRecDepth 100000 in
theorem lk_LW_75 : lk_V "SheetTreesLaw" 75 y_MO_count b_MO_count 4 (some .int) 2 := ⟨Or.inl (tb_at 776 rfl rfl), ⟨tb_at 777 rfl rfl, tb_at 778 rfl rfl⟩, tb_at 52 rfl rfl, tb_at 779 rfl rfl, ⟨by decide, by decide⟩, by decide +kernel⟩
set_option maxRecDepth 100000 in
theorem lk_LW_78 : lk_V "SheetTreesLaw" 78 y_MO_worth b_MO_worth 6 (some .int) 4 := ⟨Or.inl (tb_at 780 rfl rfl), ⟨tb_at 781 rfl rfl, tb_at 782 rfl rfl⟩, tb_at 52 rfl rfl, tb_at 783 rfl rfl, ⟨by decide, by decide⟩, by decide +kernel⟩
set_option maxRecDepth 100000 in
theorem lk_MO_130 : lk_V "SheetTreesModel" 130 y_MO_wantAll b_MO_wantAll 2 none 0 := ⟨Or.inl (tb_at 784 rfl rfl), ⟨tb_at 786 rfl rfl, tb_at 32 rfl rfl⟩, tb_at 52 rfl rfl, tb_at 787 rfl rfl, ⟨by decide, by decide⟩, by decide +kernel⟩
set_option maxRecDepth 100000 in
theorem lk_MO_133 : lk_V "SheetTreesModel" 133 y_MO_fill b_MO_fill 5 none 0 := ⟨Or.inl (tb_at 788 rfl rfl), ⟨tb_at 790 rfl rfl, tb_at 33 rfl rfl⟩, tb_at 52 rfl rfl, tb_at 791 rfl rfl, ⟨by decide, by decide⟩, by decide +kernel⟩
set_option maxRecDepth 100000 in
theorem lk_MO_127 : lk_V "SheetTreesModel" 127 y_MO_fillOne b_MO_fillOne 13 none 4 := ⟨Or.inl (tb_at 792 rfl rfl), ⟨tb_at 794 rfl rfl, tb_at 34 rfl rfl⟩, tb_at 52 rfl rfl, tb_at 795 rfl rfl, ⟨by decide, by decide⟩, by decide +kernel⟩
set_option maxRecDepth 100000 in
theorem lk_MO_116 : lk_S "SheetTreesModel" 116 y_MO_place b_MO_place 4 (some .int) 4 := ⟨Or.inl (tb_at 796 rfl rfl), tb_at 797 rfl rfl, tb_at 52 rfl rfl, tb_at 798 rfl rfl, ⟨by decide, by decide⟩, by decide +kernel⟩
set_option maxRecDepth 100000 in
theorem lk_MO_120 : lk_V "SheetTreesModel" 120 y_MO_isJust b_MO_isJust 4 (some .boolean) 3 := ⟨Or.inl (tb_at 799 rfl rfl), ⟨tb_at 801 rfl rfl, tb_at 35 rfl rfl⟩, tb_at 52 rfl rfl, tb_at 802 rfl rfl, ⟨by decide, by decide⟩, by decide +kernel⟩
set_option maxRecDepth 100000 in
theorem lk_MO_123 : lk_V "SheetTreesModel" 123 y_MO_better b_MO_better 5 none 4 := ⟨Or.inl (tb_at 803 rfl rfl), ⟨tb_at 805 rfl rfl, tb_at 36 rfl rfl⟩, tb_at 52 rfl rfl, tb_at 806 rfl rfl, ⟨by decide, by decide⟩, by decide +kernel⟩
set_option maxRecDepth 100000 in
theorem lk_LW_82 : lk_V "SheetTreesLaw" 82 y_MO_run b_MO_run 8 (some .int) 0 := ⟨Or.inl (tb_at 807 rfl rfl), ⟨tb_at 808 rfl rfl, tb_at 809 rfl rfl⟩, tb_at 52 rfl rfl, tb_at 810 rfl rfl, ⟨by decide, by decide⟩, by decide +kernel⟩
set_option maxRecDepth 100000 in
theorem lk_MO_155 : lk_V "SheetTreesModel" 155 y_MO_walk b_MO_walk 13 none 2 := ⟨Or.inl (tb_at 811 rfl rfl), ⟨tb_at 813 rfl rfl, tb_at 37 rfl rfl⟩, tb_at 52 rfl rfl, tb_at 814 rfl rfl, ⟨by decide, by decide⟩, by decide +kernel⟩
set_option maxRecDepth 100000 in
theorem lk_MO_136 : lk_V "SheetTreesModel" 136 y_MO_wayOf b_MO_wayOf 4 (some .int) 1 := ⟨Or.inl (tb_at 815 rfl rfl), ⟨tb_at 817 rfl rfl, tb_at 38 rfl rfl⟩, tb_at 52 rfl rfl, tb_at 818 rfl rfl, ⟨by decide, by decide⟩, by decide +kernel⟩
set_option maxRecDepth 100000 in
theorem lk_MO_140 : lk_V "SheetTreesModel" 140 y_MO_push b_MO_push 8 none 7 := ⟨Or.inl (tb_at 819 rfl rfl), ⟨tb_at 821 rfl rfl, tb_at 39 rfl rfl⟩, tb_at 52 rfl rfl, tb_at 822 rfl rfl, ⟨by decide, by decide⟩, by decide +kernel⟩
set_option maxRecDepth 100000 in
theorem lk_MO_144 : lk_V "SheetTreesModel" 144 y_MO_keepRest b_MO_keepRest 7 none 5 := ⟨Or.inl (tb_at 823 rfl rfl), ⟨tb_at 825 rfl rfl, tb_at 40 rfl rfl⟩, tb_at 52 rfl rfl, tb_at 826 rfl rfl, ⟨by decide, by decide⟩, by decide +kernel⟩
set_option maxRecDepth 100000 in
theorem lk_MO_148 : lk_V "SheetTreesModel" 148 y_MO_take b_MO_take 8 none 6 := ⟨Or.inl (tb_at 827 rfl rfl), ⟨tb_at 829 rfl rfl, tb_at 41 rfl rfl⟩, tb_at 52 rfl rfl, tb_at 830 rfl rfl, ⟨by decide, by decide⟩, by decide +kernel⟩
set_option maxRecDepth 100000 in
theorem lk_LW_85 : lk_V "SheetTreesLaw" 85 y_MO_cut b_MO_cut 4 (some .int) 2 := ⟨Or.inl (tb_at 831 rfl rfl), ⟨tb_at 832 rfl rfl, tb_at 833 rfl rfl⟩, tb_at 52 rfl rfl, tb_at 834 rfl rfl, ⟨by decide, by decide⟩, by decide +kernel⟩
set_option maxRecDepth 100000 in
theorem lk_MO_159 : lk_V "SheetTreesModel" 159 y_MO_look b_MO_look 4 none 3 := ⟨Or.inl (tb_at 835 rfl rfl), ⟨tb_at 837 rfl rfl, tb_at 42 rfl rfl⟩, tb_at 52 rfl rfl, tb_at 838 rfl rfl, ⟨by decide, by decide⟩, by decide +kernel⟩
set_option maxRecDepth 100000 in
theorem lk_MO_163 : lk_V "SheetTreesModel" 163 y_MO_isAlike b_MO_isAlike 5 (some .boolean) 2 := ⟨Or.inl (tb_at 839 rfl rfl), ⟨tb_at 841 rfl rfl, tb_at 43 rfl rfl⟩, tb_at 52 rfl rfl, tb_at 842 rfl rfl, ⟨by decide, by decide⟩, by decide +kernel⟩
set_option maxRecDepth 100000 in
theorem lk_LW_89 : lk_V "SheetTreesLaw" 89 y_MO_taken b_MO_taken 4 (some .int) 3 := ⟨Or.inl (tb_at 843 rfl rfl), ⟨tb_at 844 rfl rfl, tb_at 845 rfl rfl⟩, tb_at 52 rfl rfl, tb_at 846 rfl rfl, ⟨by decide, by decide⟩, by decide +kernel⟩
set_option maxRecDepth 100000 in
theorem lk_LW_92 : lk_V "SheetTreesLaw" 92 y_MO_rest b_MO_rest 4 (some .int) 3 := ⟨Or.inl (tb_at 847 rfl rfl), ⟨tb_at 848 rfl rfl, tb_at 849 rfl rfl⟩, tb_at 52 rfl rfl, tb_at 850 rfl rfl, ⟨by decide, by decide⟩, by decide +kernel⟩
set_option maxRecDepth 100000 in
theorem lk_LW_96 : lk_V "SheetTreesLaw" 96 y_MO_left b_MO_left 2 (some .int) 1 := ⟨Or.inl (tb_at 851 rfl rfl), ⟨tb_at 852 rfl rfl, tb_at 853 rfl rfl⟩, tb_at 52 rfl rfl, tb_at 854 rfl rfl, ⟨by decide, by decide⟩, by decide +kernel⟩
set_option maxRecDepth 100000 in
theorem lk_LW_99 : lk_V "SheetTreesLaw" 99 y_MO_all b_MO_all 6 (some .long) 1 := ⟨Or.inl (tb_at 855 rfl rfl), ⟨tb_at 856 rfl rfl, tb_at 857 rfl rfl⟩, tb_at 52 rfl rfl, tb_at 858 rfl rfl, ⟨by decide, by decide⟩, by decide +kernel⟩
set_option maxRecDepth 100000 in
theorem lk_LW_103 : lk_V "SheetTreesLaw" 103 y_MO_bound b_MO_bound 4 (some .int) 0 := ⟨Or.inl (tb_at 859 rfl rfl), ⟨tb_at 860 rfl rfl, tb_at 861 rfl rfl⟩, tb_at 52 rfl rfl, tb_at 862 rfl rfl, ⟨by decide, by decide⟩, by decide +kernel⟩
end
section
theorem d_CS_init_0 : decode b_CS_init 0 = .ok (.aload_n 0, 1) := by decide +kernel
theorem d_CS_init_1 : decode b_CS_init 1 = .ok (.invokespecial 1, 3) := by decide +kernel
theorem d_CS_init_4 : decode b_CS_init 4 = .ok (.aload_n 0, 1) := by decide +kernel
theorem d_CS_init_5 : decode b_CS_init 5 = .ok (.iconst 0, 1) := by decide +kernel
theorem d_CS_init_6 : decode b_CS_init 6 = .ok (.putfield 7, 3) := by decide +kernel
theorem d_CS_init_9 : decode b_CS_init 9 = .ok (.aload_n 0, 1) := by decide +kernel
theorem d_CS_init_10 : decode b_CS_init 10 = .ok (.iconst 0, 1) := by decide +kernel
theorem d_CS_init_11 : decode b_CS_init 11 = .ok (.putfield 13, 3) := by decide +kernel
theorem d_CS_init_14 : decode b_CS_init 14 = .ok (.aload_n 0, 1) := by decide +kernel
theorem d_CS_init_15 : decode b_CS_init 15 = .ok (.iconst 0, 1) := by decide +kernel
theorem d_CS_init_16 : decode b_CS_init 16 = .ok (.putfield 16, 3) := by decide +kernel
theorem d_CS_init_19 : decode b_CS_init 19 = .ok (.aload_n 0, 1) := by decide +kernel
theorem d_CS_init_20 : decode b_CS_init 20 = .ok (.iconst 0, 1) := by decide +kernel
theorem d_CS_init_21 : decode b_CS_init 21 = .ok (.putfield 19, 3) := by decide +kernel
theorem d_CS_init_24 : decode b_CS_init 24 = .ok (.aload_n 0, 1) := by decide +kernel
theorem d_CS_init_25 : decode b_CS_init 25 = .ok (.iconst 0, 1) := by decide +kernel
theorem d_CS_init_26 : decode b_CS_init 26 = .ok (.putfield 22, 3) := by decide +kernel
theorem d_CS_init_29 : decode b_CS_init 29 = .ok (.aload_n 0, 1) := by decide +kernel
theorem d_CS_init_30 : decode b_CS_init 30 = .ok (.iconst 0, 1) := by decide +kernel
theorem d_CS_init_31 : decode b_CS_init 31 = .ok (.putfield 25, 3) := by decide +kernel
theorem d_CS_init_34 : decode b_CS_init 34 = .ok (.aload_n 0, 1) := by decide +kernel
theorem d_CS_init_35 : decode b_CS_init 35 = .ok (.iconst 0, 1) := by decide +kernel
theorem d_CS_init_36 : decode b_CS_init 36 = .ok (.putfield 28, 3) := by decide +kernel
theorem d_CS_init_39 : decode b_CS_init 39 = .ok (.aload_n 0, 1) := by decide +kernel
theorem d_CS_init_40 : decode b_CS_init 40 = .ok (.iconst 0, 1) := by decide +kernel
theorem d_CS_init_41 : decode b_CS_init 41 = .ok (.putfield 31, 3) := by decide +kernel
theorem d_CS_init_44 : decode b_CS_init 44 = .ok (.aload_n 0, 1) := by decide +kernel
theorem d_CS_init_45 : decode b_CS_init 45 = .ok (.iconst 0, 1) := by decide +kernel
theorem d_CS_init_46 : decode b_CS_init 46 = .ok (.putfield 34, 3) := by decide +kernel
theorem d_CS_init_49 : decode b_CS_init 49 = .ok (.aload_n 0, 1) := by decide +kernel
theorem d_CS_init_50 : decode b_CS_init 50 = .ok (.iconst 0, 1) := by decide +kernel
theorem d_CS_init_51 : decode b_CS_init 51 = .ok (.putfield 37, 3) := by decide +kernel
theorem d_CS_init_54 : decode b_CS_init 54 = .ok (.aload_n 0, 1) := by decide +kernel
theorem d_CS_init_55 : decode b_CS_init 55 = .ok (.iconst 0, 1) := by decide +kernel
theorem d_CS_init_56 : decode b_CS_init 56 = .ok (.putfield 40, 3) := by decide +kernel
theorem d_CS_init_59 : decode b_CS_init 59 = .ok (.aload_n 0, 1) := by decide +kernel
theorem d_CS_init_60 : decode b_CS_init 60 = .ok (.iconst 0, 1) := by decide +kernel
theorem d_CS_init_61 : decode b_CS_init 61 = .ok (.putfield 43, 3) := by decide +kernel
theorem d_CS_init_64 : decode b_CS_init 64 = .ok (.aload_n 0, 1) := by decide +kernel
theorem d_CS_init_65 : decode b_CS_init 65 = .ok (.iconst 0, 1) := by decide +kernel
theorem d_CS_init_66 : decode b_CS_init 66 = .ok (.putfield 46, 3) := by decide +kernel
theorem d_CS_init_69 : decode b_CS_init 69 = .ok (.return_, 1) := by decide +kernel
theorem d_CS_start_0 : decode b_CS_start 0 = .ok (.aload_n 0, 1) := by decide +kernel
theorem d_CS_start_1 : decode b_CS_start 1 = .ok (.iload_n 1, 1) := by decide +kernel
theorem d_CS_start_2 : decode b_CS_start 2 = .ok (.putfield 7, 3) := by decide +kernel
theorem d_CS_start_5 : decode b_CS_start 5 = .ok (.aload_n 0, 1) := by decide +kernel
theorem d_CS_start_6 : decode b_CS_start 6 = .ok (.aload_n 2, 1) := by decide +kernel
theorem d_CS_start_7 : decode b_CS_start 7 = .ok (.getfield 49, 3) := by decide +kernel
theorem d_CS_start_10 : decode b_CS_start 10 = .ok (.putfield 13, 3) := by decide +kernel
theorem d_CS_start_13 : decode b_CS_start 13 = .ok (.aload_n 0, 1) := by decide +kernel
theorem d_CS_start_14 : decode b_CS_start 14 = .ok (.aload_n 2, 1) := by decide +kernel
theorem d_CS_start_15 : decode b_CS_start 15 = .ok (.invokevirtual 52, 3) := by decide +kernel
theorem d_CS_start_18 : decode b_CS_start 18 = .ok (.putfield 16, 3) := by decide +kernel
theorem d_CS_start_21 : decode b_CS_start 21 = .ok (.aload_n 0, 1) := by decide +kernel
theorem d_CS_start_22 : decode b_CS_start 22 = .ok (.aload_n 3, 1) := by decide +kernel
theorem d_CS_start_23 : decode b_CS_start 23 = .ok (.getfield 55, 3) := by decide +kernel
theorem d_CS_start_26 : decode b_CS_start 26 = .ok (.putfield 19, 3) := by decide +kernel
theorem d_CS_start_29 : decode b_CS_start 29 = .ok (.aload_n 0, 1) := by decide +kernel
theorem d_CS_start_30 : decode b_CS_start 30 = .ok (.aload_n 3, 1) := by decide +kernel
theorem d_CS_start_31 : decode b_CS_start 31 = .ok (.getfield 58, 3) := by decide +kernel
theorem d_CS_start_34 : decode b_CS_start 34 = .ok (.putfield 22, 3) := by decide +kernel
theorem d_CS_start_37 : decode b_CS_start 37 = .ok (.aload_n 0, 1) := by decide +kernel
theorem d_CS_start_38 : decode b_CS_start 38 = .ok (.aload_n 3, 1) := by decide +kernel
theorem d_CS_start_39 : decode b_CS_start 39 = .ok (.getfield 59, 3) := by decide +kernel
theorem d_CS_start_42 : decode b_CS_start 42 = .ok (.putfield 25, 3) := by decide +kernel
theorem d_CS_start_45 : decode b_CS_start 45 = .ok (.aload_n 0, 1) := by decide +kernel
theorem d_CS_start_46 : decode b_CS_start 46 = .ok (.aload_n 3, 1) := by decide +kernel
theorem d_CS_start_47 : decode b_CS_start 47 = .ok (.invokevirtual 60, 3) := by decide +kernel
theorem d_CS_start_50 : decode b_CS_start 50 = .ok (.putfield 28, 3) := by decide +kernel
theorem d_CS_start_53 : decode b_CS_start 53 = .ok (.aload_n 0, 1) := by decide +kernel
theorem d_CS_start_54 : decode b_CS_start 54 = .ok (.iconst 0, 1) := by decide +kernel
theorem d_CS_start_55 : decode b_CS_start 55 = .ok (.putfield 37, 3) := by decide +kernel
theorem d_CS_start_58 : decode b_CS_start 58 = .ok (.return_, 1) := by decide +kernel
theorem d_PA_init_0 : decode b_PA_init 0 = .ok (.aload_n 0, 1) := by decide +kernel
theorem d_PA_init_1 : decode b_PA_init 1 = .ok (.invokespecial 1, 3) := by decide +kernel
theorem d_PA_init_4 : decode b_PA_init 4 = .ok (.aload_n 0, 1) := by decide +kernel
theorem d_PA_init_5 : decode b_PA_init 5 = .ok (.iconst 0, 1) := by decide +kernel
theorem d_PA_init_6 : decode b_PA_init 6 = .ok (.putfield 7, 3) := by decide +kernel
theorem d_PA_init_9 : decode b_PA_init 9 = .ok (.aload_n 0, 1) := by decide +kernel
theorem d_PA_init_10 : decode b_PA_init 10 = .ok (.iconst 0, 1) := by decide +kernel
theorem d_PA_init_11 : decode b_PA_init 11 = .ok (.putfield 13, 3) := by decide +kernel
theorem d_PA_init_14 : decode b_PA_init 14 = .ok (.aload_n 0, 1) := by decide +kernel
theorem d_PA_init_15 : decode b_PA_init 15 = .ok (.iconst 0, 1) := by decide +kernel
theorem d_PA_init_16 : decode b_PA_init 16 = .ok (.putfield 16, 3) := by decide +kernel
theorem d_PA_init_19 : decode b_PA_init 19 = .ok (.aload_n 0, 1) := by decide +kernel
theorem d_PA_init_20 : decode b_PA_init 20 = .ok (.iconst 0, 1) := by decide +kernel
theorem d_PA_init_21 : decode b_PA_init 21 = .ok (.putfield 20, 3) := by decide +kernel
theorem d_PA_init_24 : decode b_PA_init 24 = .ok (.aload_n 0, 1) := by decide +kernel
theorem d_PA_init_25 : decode b_PA_init 25 = .ok (.iconst 0, 1) := by decide +kernel
theorem d_PA_init_26 : decode b_PA_init 26 = .ok (.putfield 23, 3) := by decide +kernel
theorem d_PA_init_29 : decode b_PA_init 29 = .ok (.return_, 1) := by decide +kernel
theorem d_PA_area_0 : decode b_PA_area 0 = .ok (.aload_n 0, 1) := by decide +kernel
theorem d_PA_area_1 : decode b_PA_area 1 = .ok (.getfield 7, 3) := by decide +kernel
theorem d_PA_area_4 : decode b_PA_area 4 = .ok (.aload_n 0, 1) := by decide +kernel
theorem d_PA_area_5 : decode b_PA_area 5 = .ok (.getfield 13, 3) := by decide +kernel
theorem d_PA_area_8 : decode b_PA_area 8 = .ok (.imul, 1) := by decide +kernel
theorem d_PA_area_9 : decode b_PA_area 9 = .ok (.ireturn, 1) := by decide +kernel
theorem d_PI_of_0 : decode b_PI_of 0 = .ok (.iload_n 0, 1) := by decide +kernel
theorem d_PI_of_1 : decode b_PI_of 1 = .ok (.iconst 5, 1) := by decide +kernel
theorem d_PI_of_2 : decode b_PI_of 2 = .ok (.ishl, 1) := by decide +kernel
theorem d_PI_of_3 : decode b_PI_of 3 = .ok (.iload_n 1, 1) := by decide +kernel
theorem d_PI_of_4 : decode b_PI_of 4 = .ok (.ior, 1) := by decide +kernel
theorem d_PI_of_5 : decode b_PI_of 5 = .ok (.iconst 5, 1) := by decide +kernel
theorem d_PI_of_6 : decode b_PI_of 6 = .ok (.ishl, 1) := by decide +kernel
theorem d_PI_of_7 : decode b_PI_of 7 = .ok (.iload_n 2, 1) := by decide +kernel
theorem d_PI_of_8 : decode b_PI_of 8 = .ok (.ior, 1) := by decide +kernel
theorem d_PI_of_9 : decode b_PI_of 9 = .ok (.iconst 5, 1) := by decide +kernel
theorem d_PI_of_10 : decode b_PI_of 10 = .ok (.ishl, 1) := by decide +kernel
theorem d_PI_of_11 : decode b_PI_of 11 = .ok (.iload_n 3, 1) := by decide +kernel
theorem d_PI_of_12 : decode b_PI_of 12 = .ok (.ior, 1) := by decide +kernel
theorem d_PI_of_13 : decode b_PI_of 13 = .ok (.iconst 5, 1) := by decide +kernel
theorem d_PI_of_14 : decode b_PI_of 14 = .ok (.ishl, 1) := by decide +kernel
theorem d_PI_of_15 : decode b_PI_of 15 = .ok (.iload 4, 2) := by decide +kernel
theorem d_PI_of_17 : decode b_PI_of 17 = .ok (.ior, 1) := by decide +kernel
theorem d_PI_of_18 : decode b_PI_of 18 = .ok (.ireturn, 1) := by decide +kernel
theorem d_PI_field_0 : decode b_PI_field 0 = .ok (.iload_n 0, 1) := by decide +kernel
theorem d_PI_field_1 : decode b_PI_field 1 = .ok (.iconst 5, 1) := by decide +kernel
theorem d_PI_field_2 : decode b_PI_field 2 = .ok (.iconst 4, 1) := by decide +kernel
theorem d_PI_field_3 : decode b_PI_field 3 = .ok (.iload_n 1, 1) := by decide +kernel
theorem d_PI_field_4 : decode b_PI_field 4 = .ok (.isub, 1) := by decide +kernel
theorem d_PI_field_5 : decode b_PI_field 5 = .ok (.imul, 1) := by decide +kernel
theorem d_PI_field_6 : decode b_PI_field 6 = .ok (.ishr, 1) := by decide +kernel
theorem d_PI_field_7 : decode b_PI_field 7 = .ok (.bipush 31, 2) := by decide +kernel
theorem d_PI_field_9 : decode b_PI_field 9 = .ok (.iand, 1) := by decide +kernel
theorem d_PI_field_10 : decode b_PI_field 10 = .ok (.ireturn, 1) := by decide +kernel
theorem d_PI_isAtLeast_0 : decode b_PI_isAtLeast 0 = .ok (.iload_n 0, 1) := by decide +kernel
theorem d_PI_isAtLeast_1 : decode b_PI_isAtLeast 1 = .ok (.iconst 3, 1) := by decide +kernel
theorem d_PI_isAtLeast_2 : decode b_PI_isAtLeast 2 = .ok (.invokestatic 9, 3) := by decide +kernel
theorem d_PI_isAtLeast_5 : decode b_PI_isAtLeast 5 = .ok (.iload_n 1, 1) := by decide +kernel
theorem d_PI_isAtLeast_6 : decode b_PI_isAtLeast 6 = .ok (.if_icmp .lt 16, 3) := by decide +kernel
theorem d_PI_isAtLeast_9 : decode b_PI_isAtLeast 9 = .ok (.iload_n 0, 1) := by decide +kernel
theorem d_PI_isAtLeast_10 : decode b_PI_isAtLeast 10 = .ok (.iconst 4, 1) := by decide +kernel
theorem d_PI_isAtLeast_11 : decode b_PI_isAtLeast 11 = .ok (.invokestatic 9, 3) := by decide +kernel
theorem d_PI_isAtLeast_14 : decode b_PI_isAtLeast 14 = .ok (.iload_n 1, 1) := by decide +kernel
theorem d_PI_isAtLeast_15 : decode b_PI_isAtLeast 15 = .ok (.if_icmp .lt 7, 3) := by decide +kernel
theorem d_PI_isAtLeast_18 : decode b_PI_isAtLeast 18 = .ok (.iconst 1, 1) := by decide +kernel
theorem d_PI_isAtLeast_19 : decode b_PI_isAtLeast 19 = .ok (.goto 4, 3) := by decide +kernel
theorem d_PI_isAtLeast_22 : decode b_PI_isAtLeast 22 = .ok (.iconst 0, 1) := by decide +kernel
theorem d_PI_isAtLeast_23 : decode b_PI_isAtLeast 23 = .ok (.ireturn, 1) := by decide +kernel
theorem d_SH_init_0 : decode b_SH_init 0 = .ok (.aload_n 0, 1) := by decide +kernel
theorem d_SH_init_1 : decode b_SH_init 1 = .ok (.invokespecial 1, 3) := by decide +kernel
theorem d_SH_init_4 : decode b_SH_init 4 = .ok (.aload_n 0, 1) := by decide +kernel
theorem d_SH_init_5 : decode b_SH_init 5 = .ok (.iconst 0, 1) := by decide +kernel
theorem d_SH_init_6 : decode b_SH_init 6 = .ok (.putfield 7, 3) := by decide +kernel
theorem d_SH_init_9 : decode b_SH_init 9 = .ok (.aload_n 0, 1) := by decide +kernel
theorem d_SH_init_10 : decode b_SH_init 10 = .ok (.iconst 0, 1) := by decide +kernel
theorem d_SH_init_11 : decode b_SH_init 11 = .ok (.putfield 13, 3) := by decide +kernel
theorem d_SH_init_14 : decode b_SH_init 14 = .ok (.aload_n 0, 1) := by decide +kernel
theorem d_SH_init_15 : decode b_SH_init 15 = .ok (.iconst 0, 1) := by decide +kernel
theorem d_SH_init_16 : decode b_SH_init 16 = .ok (.putfield 16, 3) := by decide +kernel
theorem d_SH_init_19 : decode b_SH_init 19 = .ok (.aload_n 0, 1) := by decide +kernel
theorem d_SH_init_20 : decode b_SH_init 20 = .ok (.iconst 0, 1) := by decide +kernel
theorem d_SH_init_21 : decode b_SH_init 21 = .ok (.putfield 19, 3) := by decide +kernel
theorem d_SH_init_24 : decode b_SH_init 24 = .ok (.aload_n 0, 1) := by decide +kernel
theorem d_SH_init_25 : decode b_SH_init 25 = .ok (.iconst 0, 1) := by decide +kernel
theorem d_SH_init_26 : decode b_SH_init 26 = .ok (.putfield 22, 3) := by decide +kernel
theorem d_SH_init_29 : decode b_SH_init 29 = .ok (.return_, 1) := by decide +kernel
theorem d_SH_area_0 : decode b_SH_area 0 = .ok (.aload_n 0, 1) := by decide +kernel
theorem d_SH_area_1 : decode b_SH_area 1 = .ok (.getfield 7, 3) := by decide +kernel
theorem d_SH_area_4 : decode b_SH_area 4 = .ok (.aload_n 0, 1) := by decide +kernel
theorem d_SH_area_5 : decode b_SH_area 5 = .ok (.getfield 13, 3) := by decide +kernel
theorem d_SH_area_8 : decode b_SH_area 8 = .ok (.imul, 1) := by decide +kernel
theorem d_SH_area_9 : decode b_SH_area 9 = .ok (.ireturn, 1) := by decide +kernel
theorem d_TB_init_0 : decode b_TB_init 0 = .ok (.aload_n 0, 1) := by decide +kernel
theorem d_TB_init_1 : decode b_TB_init 1 = .ok (.invokespecial 5, 3) := by decide +kernel
theorem d_TB_init_4 : decode b_TB_init 4 = .ok (.aload_n 0, 1) := by decide +kernel
theorem d_TB_init_5 : decode b_TB_init 5 = .ok (.sipush 2312, 3) := by decide +kernel
theorem d_TB_init_8 : decode b_TB_init 8 = .ok (.newarray .int, 2) := by decide +kernel
theorem d_TB_init_10 : decode b_TB_init 10 = .ok (.putfield 11, 3) := by decide +kernel
theorem d_TB_init_13 : decode b_TB_init 13 = .ok (.aload_n 0, 1) := by decide +kernel
theorem d_TB_init_14 : decode b_TB_init 14 = .ok (.sipush 2312, 3) := by decide +kernel
theorem d_TB_init_17 : decode b_TB_init 17 = .ok (.newarray .int, 2) := by decide +kernel
theorem d_TB_init_19 : decode b_TB_init 19 = .ok (.putfield 15, 3) := by decide +kernel
theorem d_TB_init_22 : decode b_TB_init 22 = .ok (.aload_n 0, 1) := by decide +kernel
theorem d_TB_init_23 : decode b_TB_init 23 = .ok (.iconst (-1), 1) := by decide +kernel
theorem d_TB_init_24 : decode b_TB_init 24 = .ok (.putfield 18, 3) := by decide +kernel
theorem d_TB_init_27 : decode b_TB_init 27 = .ok (.aload_n 0, 1) := by decide +kernel
theorem d_TB_init_28 : decode b_TB_init 28 = .ok (.iconst 0, 1) := by decide +kernel
theorem d_TB_init_29 : decode b_TB_init 29 = .ok (.putfield 22, 3) := by decide +kernel
theorem d_TB_init_32 : decode b_TB_init 32 = .ok (.aload_n 0, 1) := by decide +kernel
theorem d_TB_init_33 : decode b_TB_init 33 = .ok (.iload_n 1, 1) := by decide +kernel
theorem d_TB_init_34 : decode b_TB_init 34 = .ok (.putfield 25, 3) := by decide +kernel
theorem d_TB_init_37 : decode b_TB_init 37 = .ok (.return_, 1) := by decide +kernel
theorem d_TB_fill_0 : decode b_TB_fill 0 = .ok (.iload_n 2, 1) := by decide +kernel
theorem d_TB_fill_1 : decode b_TB_fill 1 = .ok (.aload_n 0, 1) := by decide +kernel
theorem d_TB_fill_2 : decode b_TB_fill 2 = .ok (.getfield 18, 3) := by decide +kernel
theorem d_TB_fill_5 : decode b_TB_fill 5 = .ok (.if_icmp .eq 18, 3) := by decide +kernel
theorem d_TB_fill_8 : decode b_TB_fill 8 = .ok (.aload_n 0, 1) := by decide +kernel
theorem d_TB_fill_9 : decode b_TB_fill 9 = .ok (.iload_n 2, 1) := by decide +kernel
theorem d_TB_fill_10 : decode b_TB_fill 10 = .ok (.putfield 18, 3) := by decide +kernel
theorem d_TB_fill_13 : decode b_TB_fill 13 = .ok (.aload_n 0, 1) := by decide +kernel
theorem d_TB_fill_14 : decode b_TB_fill 14 = .ok (.iconst 0, 1) := by decide +kernel
theorem d_TB_fill_15 : decode b_TB_fill 15 = .ok (.putfield 22, 3) := by decide +kernel
theorem d_TB_fill_18 : decode b_TB_fill 18 = .ok (.aload_n 0, 1) := by decide +kernel
theorem d_TB_fill_19 : decode b_TB_fill 19 = .ok (.aload_n 1, 1) := by decide +kernel
theorem d_TB_fill_20 : decode b_TB_fill 20 = .ok (.invokevirtual 28, 3) := by decide +kernel
theorem d_TB_fill_23 : decode b_TB_fill 23 = .ok (.aload_n 0, 1) := by decide +kernel
theorem d_TB_fill_24 : decode b_TB_fill 24 = .ok (.getfield 22, 3) := by decide +kernel
theorem d_TB_fill_27 : decode b_TB_fill 27 = .ok (.iconst 1, 1) := by decide +kernel
theorem d_TB_fill_28 : decode b_TB_fill 28 = .ok (.iadd, 1) := by decide +kernel
theorem d_TB_fill_29 : decode b_TB_fill 29 = .ok (.istore 4, 2) := by decide +kernel
theorem d_TB_fill_31 : decode b_TB_fill 31 = .ok (.iload 4, 2) := by decide +kernel
theorem d_TB_fill_33 : decode b_TB_fill 33 = .ok (.iload_n 3, 1) := by decide +kernel
theorem d_TB_fill_34 : decode b_TB_fill 34 = .ok (.if_icmp .gt 27, 3) := by decide +kernel
theorem d_TB_fill_37 : decode b_TB_fill 37 = .ok (.iload 4, 2) := by decide +kernel
theorem d_TB_fill_39 : decode b_TB_fill 39 = .ok (.iconst 3, 1) := by decide +kernel
theorem d_TB_fill_40 : decode b_TB_fill 40 = .ok (.if_icmp .gt 21, 3) := by decide +kernel
theorem d_TB_fill_43 : decode b_TB_fill 43 = .ok (.aload_n 0, 1) := by decide +kernel
theorem d_TB_fill_44 : decode b_TB_fill 44 = .ok (.iload 4, 2) := by decide +kernel
theorem d_TB_fill_46 : decode b_TB_fill 46 = .ok (.invokevirtual 32, 3) := by decide +kernel
theorem d_TB_fill_49 : decode b_TB_fill 49 = .ok (.aload_n 0, 1) := by decide +kernel
theorem d_TB_fill_50 : decode b_TB_fill 50 = .ok (.iload 4, 2) := by decide +kernel
theorem d_TB_fill_52 : decode b_TB_fill 52 = .ok (.putfield 22, 3) := by decide +kernel
theorem d_TB_fill_55 : decode b_TB_fill 55 = .ok (.iinc 4 1, 3) := by decide +kernel
theorem d_TB_fill_58 : decode b_TB_fill 58 = .ok (.goto (-27), 3) := by decide +kernel
theorem d_TB_fill_61 : decode b_TB_fill 61 = .ok (.return_, 1) := by decide +kernel
theorem d_TB_valueOf_0 : decode b_TB_valueOf 0 = .ok (.aload_n 0, 1) := by decide +kernel
theorem d_TB_valueOf_1 : decode b_TB_valueOf 1 = .ok (.iload_n 1, 1) := by decide +kernel
theorem d_TB_valueOf_2 : decode b_TB_valueOf 2 = .ok (.iload_n 2, 1) := by decide +kernel
theorem d_TB_valueOf_3 : decode b_TB_valueOf 3 = .ok (.iload_n 3, 1) := by decide +kernel
theorem d_TB_valueOf_4 : decode b_TB_valueOf 4 = .ok (.iload 4, 2) := by decide +kernel
theorem d_TB_valueOf_6 : decode b_TB_valueOf 6 = .ok (.invokevirtual 36, 3) := by decide +kernel
theorem d_TB_valueOf_9 : decode b_TB_valueOf 9 = .ok (.sipush 1024, 3) := by decide +kernel
theorem d_TB_valueOf_12 : decode b_TB_valueOf 12 = .ok (.iadd, 1) := by decide +kernel
theorem d_TB_valueOf_13 : decode b_TB_valueOf 13 = .ok (.iconst 1, 1) := by decide +kernel
theorem d_TB_valueOf_14 : decode b_TB_valueOf 14 = .ok (.isub, 1) := by decide +kernel
theorem d_TB_valueOf_15 : decode b_TB_valueOf 15 = .ok (.sipush 1024, 3) := by decide +kernel
theorem d_TB_valueOf_18 : decode b_TB_valueOf 18 = .ok (.idiv, 1) := by decide +kernel
theorem d_TB_valueOf_19 : decode b_TB_valueOf 19 = .ok (.ireturn, 1) := by decide +kernel
theorem d_TB_scoreOf_0 : decode b_TB_scoreOf 0 = .ok (.aload_n 0, 1) := by decide +kernel
theorem d_TB_scoreOf_1 : decode b_TB_scoreOf 1 = .ok (.iload_n 1, 1) := by decide +kernel
theorem d_TB_scoreOf_2 : decode b_TB_scoreOf 2 = .ok (.iload_n 2, 1) := by decide +kernel
theorem d_TB_scoreOf_3 : decode b_TB_scoreOf 3 = .ok (.iload_n 3, 1) := by decide +kernel
theorem d_TB_scoreOf_4 : decode b_TB_scoreOf 4 = .ok (.iload 4, 2) := by decide +kernel
theorem d_TB_scoreOf_6 : decode b_TB_scoreOf 6 = .ok (.invokestatic 40, 3) := by decide +kernel
theorem d_TB_scoreOf_9 : decode b_TB_scoreOf 9 = .ok (.invokevirtual 43, 3) := by decide +kernel
theorem d_TB_scoreOf_12 : decode b_TB_scoreOf 12 = .ok (.ireturn, 1) := by decide +kernel
theorem d_TB_choiceOf_0 : decode b_TB_choiceOf 0 = .ok (.aload_n 0, 1) := by decide +kernel
theorem d_TB_choiceOf_1 : decode b_TB_choiceOf 1 = .ok (.iload_n 1, 1) := by decide +kernel
theorem d_TB_choiceOf_2 : decode b_TB_choiceOf 2 = .ok (.iload_n 2, 1) := by decide +kernel
theorem d_TB_choiceOf_3 : decode b_TB_choiceOf 3 = .ok (.iload_n 3, 1) := by decide +kernel
theorem d_TB_choiceOf_4 : decode b_TB_choiceOf 4 = .ok (.iload 4, 2) := by decide +kernel
theorem d_TB_choiceOf_6 : decode b_TB_choiceOf 6 = .ok (.invokestatic 40, 3) := by decide +kernel
theorem d_TB_choiceOf_9 : decode b_TB_choiceOf 9 = .ok (.invokevirtual 47, 3) := by decide +kernel
theorem d_TB_choiceOf_12 : decode b_TB_choiceOf 12 = .ok (.ireturn, 1) := by decide +kernel
theorem d_TB_placeOf_0 : decode b_TB_placeOf 0 = .ok (.iload_n 0, 1) := by decide +kernel
theorem d_TB_placeOf_1 : decode b_TB_placeOf 1 = .ok (.iconst 2, 1) := by decide +kernel
theorem d_TB_placeOf_2 : decode b_TB_placeOf 2 = .ok (.imul, 1) := by decide +kernel
theorem d_TB_placeOf_3 : decode b_TB_placeOf 3 = .ok (.iload_n 1, 1) := by decide +kernel
theorem d_TB_placeOf_4 : decode b_TB_placeOf 4 = .ok (.iadd, 1) := by decide +kernel
theorem d_TB_placeOf_5 : decode b_TB_placeOf 5 = .ok (.bipush 17, 2) := by decide +kernel
theorem d_TB_placeOf_7 : decode b_TB_placeOf 7 = .ok (.imul, 1) := by decide +kernel
theorem d_TB_placeOf_8 : decode b_TB_placeOf 8 = .ok (.iload_n 2, 1) := by decide +kernel
theorem d_TB_placeOf_9 : decode b_TB_placeOf 9 = .ok (.iadd, 1) := by decide +kernel
theorem d_TB_placeOf_10 : decode b_TB_placeOf 10 = .ok (.bipush 17, 2) := by decide +kernel
theorem d_TB_placeOf_12 : decode b_TB_placeOf 12 = .ok (.imul, 1) := by decide +kernel
theorem d_TB_placeOf_13 : decode b_TB_placeOf 13 = .ok (.iload_n 3, 1) := by decide +kernel
theorem d_TB_placeOf_14 : decode b_TB_placeOf 14 = .ok (.iadd, 1) := by decide +kernel
theorem d_TB_placeOf_15 : decode b_TB_placeOf 15 = .ok (.ireturn, 1) := by decide +kernel
theorem d_TB_scoreAt_0 : decode b_TB_scoreAt 0 = .ok (.iload_n 1, 1) := by decide +kernel
theorem d_TB_scoreAt_1 : decode b_TB_scoreAt 1 = .ok (.ifCond .lt 21, 3) := by decide +kernel
theorem d_TB_scoreAt_4 : decode b_TB_scoreAt 4 = .ok (.iload_n 1, 1) := by decide +kernel
theorem d_TB_scoreAt_5 : decode b_TB_scoreAt 5 = .ok (.aload_n 0, 1) := by decide +kernel
theorem d_TB_scoreAt_6 : decode b_TB_scoreAt 6 = .ok (.getfield 11, 3) := by decide +kernel
theorem d_TB_scoreAt_9 : decode b_TB_scoreAt 9 = .ok (.arraylength, 1) := by decide +kernel
theorem d_TB_scoreAt_10 : decode b_TB_scoreAt 10 = .ok (.if_icmp .ge 12, 3) := by decide +kernel
theorem d_TB_scoreAt_13 : decode b_TB_scoreAt 13 = .ok (.aload_n 0, 1) := by decide +kernel
theorem d_TB_scoreAt_14 : decode b_TB_scoreAt 14 = .ok (.getfield 11, 3) := by decide +kernel
theorem d_TB_scoreAt_17 : decode b_TB_scoreAt 17 = .ok (.iload_n 1, 1) := by decide +kernel
theorem d_TB_scoreAt_18 : decode b_TB_scoreAt 18 = .ok (.iaload, 1) := by decide +kernel
theorem d_TB_scoreAt_19 : decode b_TB_scoreAt 19 = .ok (.goto 4, 3) := by decide +kernel
theorem d_TB_scoreAt_22 : decode b_TB_scoreAt 22 = .ok (.iconst 0, 1) := by decide +kernel
theorem d_TB_scoreAt_23 : decode b_TB_scoreAt 23 = .ok (.ireturn, 1) := by decide +kernel
theorem d_TB_choiceAt_0 : decode b_TB_choiceAt 0 = .ok (.iload_n 1, 1) := by decide +kernel
theorem d_TB_choiceAt_1 : decode b_TB_choiceAt 1 = .ok (.ifCond .lt 21, 3) := by decide +kernel
theorem d_TB_choiceAt_4 : decode b_TB_choiceAt 4 = .ok (.iload_n 1, 1) := by decide +kernel
theorem d_TB_choiceAt_5 : decode b_TB_choiceAt 5 = .ok (.aload_n 0, 1) := by decide +kernel
theorem d_TB_choiceAt_6 : decode b_TB_choiceAt 6 = .ok (.getfield 15, 3) := by decide +kernel
theorem d_TB_choiceAt_9 : decode b_TB_choiceAt 9 = .ok (.arraylength, 1) := by decide +kernel
theorem d_TB_choiceAt_10 : decode b_TB_choiceAt 10 = .ok (.if_icmp .ge 12, 3) := by decide +kernel
theorem d_TB_choiceAt_13 : decode b_TB_choiceAt 13 = .ok (.aload_n 0, 1) := by decide +kernel
theorem d_TB_choiceAt_14 : decode b_TB_choiceAt 14 = .ok (.getfield 15, 3) := by decide +kernel
theorem d_TB_choiceAt_17 : decode b_TB_choiceAt 17 = .ok (.iload_n 1, 1) := by decide +kernel
theorem d_TB_choiceAt_18 : decode b_TB_choiceAt 18 = .ok (.iaload, 1) := by decide +kernel
theorem d_TB_choiceAt_19 : decode b_TB_choiceAt 19 = .ok (.goto 5, 3) := by decide +kernel
theorem d_TB_choiceAt_22 : decode b_TB_choiceAt 22 = .ok (.bipush 8, 2) := by decide +kernel
theorem d_TB_choiceAt_24 : decode b_TB_choiceAt 24 = .ok (.ireturn, 1) := by decide +kernel
theorem d_TB_put_0 : decode b_TB_put 0 = .ok (.iload_n 1, 1) := by decide +kernel
theorem d_TB_put_1 : decode b_TB_put 1 = .ok (.ifCond .lt 35, 3) := by decide +kernel
theorem d_TB_put_4 : decode b_TB_put 4 = .ok (.iload_n 1, 1) := by decide +kernel
theorem d_TB_put_5 : decode b_TB_put 5 = .ok (.aload_n 0, 1) := by decide +kernel
theorem d_TB_put_6 : decode b_TB_put 6 = .ok (.getfield 11, 3) := by decide +kernel
theorem d_TB_put_9 : decode b_TB_put 9 = .ok (.arraylength, 1) := by decide +kernel
theorem d_TB_put_10 : decode b_TB_put 10 = .ok (.if_icmp .ge 26, 3) := by decide +kernel
theorem d_TB_put_13 : decode b_TB_put 13 = .ok (.iload_n 1, 1) := by decide +kernel
theorem d_TB_put_14 : decode b_TB_put 14 = .ok (.aload_n 0, 1) := by decide +kernel
theorem d_TB_put_15 : decode b_TB_put 15 = .ok (.getfield 15, 3) := by decide +kernel
theorem d_TB_put_18 : decode b_TB_put 18 = .ok (.arraylength, 1) := by decide +kernel
theorem d_TB_put_19 : decode b_TB_put 19 = .ok (.if_icmp .ge 17, 3) := by decide +kernel
theorem d_TB_put_22 : decode b_TB_put 22 = .ok (.aload_n 0, 1) := by decide +kernel
theorem d_TB_put_23 : decode b_TB_put 23 = .ok (.getfield 11, 3) := by decide +kernel
theorem d_TB_put_26 : decode b_TB_put 26 = .ok (.iload_n 1, 1) := by decide +kernel
theorem d_TB_put_27 : decode b_TB_put 27 = .ok (.iload_n 2, 1) := by decide +kernel
theorem d_TB_put_28 : decode b_TB_put 28 = .ok (.iastore, 1) := by decide +kernel
theorem d_TB_put_29 : decode b_TB_put 29 = .ok (.aload_n 0, 1) := by decide +kernel
theorem d_TB_put_30 : decode b_TB_put 30 = .ok (.getfield 15, 3) := by decide +kernel
theorem d_TB_put_33 : decode b_TB_put 33 = .ok (.iload_n 1, 1) := by decide +kernel
theorem d_TB_put_34 : decode b_TB_put 34 = .ok (.iload_n 3, 1) := by decide +kernel
theorem d_TB_put_35 : decode b_TB_put 35 = .ok (.iastore, 1) := by decide +kernel
theorem d_TB_put_36 : decode b_TB_put 36 = .ok (.return_, 1) := by decide +kernel
theorem d_TB_fillWithoutCuts_0 : decode b_TB_fillWithoutCuts 0 = .ok (.aload_n 0, 1) := by decide +kernel
theorem d_TB_fillWithoutCuts_1 : decode b_TB_fillWithoutCuts 1 = .ok (.getfield 11, 3) := by decide +kernel
theorem d_TB_fillWithoutCuts_4 : decode b_TB_fillWithoutCuts 4 = .ok (.iconst 0, 1) := by decide +kernel
theorem d_TB_fillWithoutCuts_5 : decode b_TB_fillWithoutCuts 5 = .ok (.invokestatic 50, 3) := by decide +kernel
theorem d_TB_fillWithoutCuts_8 : decode b_TB_fillWithoutCuts 8 = .ok (.aload_n 0, 1) := by decide +kernel
theorem d_TB_fillWithoutCuts_9 : decode b_TB_fillWithoutCuts 9 = .ok (.getfield 15, 3) := by decide +kernel
theorem d_TB_fillWithoutCuts_12 : decode b_TB_fillWithoutCuts 12 = .ok (.bipush 8, 2) := by decide +kernel
theorem d_TB_fillWithoutCuts_14 : decode b_TB_fillWithoutCuts 14 = .ok (.invokestatic 50, 3) := by decide +kernel
theorem d_TB_fillWithoutCuts_17 : decode b_TB_fillWithoutCuts 17 = .ok (.aload_n 1, 1) := by decide +kernel
theorem d_TB_fillWithoutCuts_18 : decode b_TB_fillWithoutCuts 18 = .ok (.arraylength, 1) := by decide +kernel
theorem d_TB_fillWithoutCuts_19 : decode b_TB_fillWithoutCuts 19 = .ok (.iconst 1, 1) := by decide +kernel
theorem d_TB_fillWithoutCuts_20 : decode b_TB_fillWithoutCuts 20 = .ok (.isub, 1) := by decide +kernel
theorem d_TB_fillWithoutCuts_21 : decode b_TB_fillWithoutCuts 21 = .ok (.istore_n 2, 1) := by decide +kernel
theorem d_TB_fillWithoutCuts_22 : decode b_TB_fillWithoutCuts 22 = .ok (.iload_n 2, 1) := by decide +kernel
theorem d_TB_fillWithoutCuts_23 : decode b_TB_fillWithoutCuts 23 = .ok (.ifCond .lt 64, 3) := by decide +kernel
theorem d_TB_fillWithoutCuts_26 : decode b_TB_fillWithoutCuts 26 = .ok (.aload_n 0, 1) := by decide +kernel
theorem d_TB_fillWithoutCuts_27 : decode b_TB_fillWithoutCuts 27 = .ok (.getfield 18, 3) := by decide +kernel
theorem d_TB_fillWithoutCuts_30 : decode b_TB_fillWithoutCuts 30 = .ok (.iload_n 2, 1) := by decide +kernel
theorem d_TB_fillWithoutCuts_31 : decode b_TB_fillWithoutCuts 31 = .ok (.ishr, 1) := by decide +kernel
theorem d_TB_fillWithoutCuts_32 : decode b_TB_fillWithoutCuts 32 = .ok (.iconst 1, 1) := by decide +kernel
theorem d_TB_fillWithoutCuts_33 : decode b_TB_fillWithoutCuts 33 = .ok (.iand, 1) := by decide +kernel
theorem d_TB_fillWithoutCuts_34 : decode b_TB_fillWithoutCuts 34 = .ok (.iconst 1, 1) := by decide +kernel
theorem d_TB_fillWithoutCuts_35 : decode b_TB_fillWithoutCuts 35 = .ok (.if_icmp .ne 46, 3) := by decide +kernel
theorem d_TB_fillWithoutCuts_38 : decode b_TB_fillWithoutCuts 38 = .ok (.aload_n 0, 1) := by decide +kernel
theorem d_TB_fillWithoutCuts_39 : decode b_TB_fillWithoutCuts 39 = .ok (.iload_n 2, 1) := by decide +kernel
theorem d_TB_fillWithoutCuts_40 : decode b_TB_fillWithoutCuts 40 = .ok (.aload_n 1, 1) := by decide +kernel
theorem d_TB_fillWithoutCuts_41 : decode b_TB_fillWithoutCuts 41 = .ok (.iload_n 2, 1) := by decide +kernel
theorem d_TB_fillWithoutCuts_42 : decode b_TB_fillWithoutCuts 42 = .ok (.aaload, 1) := by decide +kernel
theorem d_TB_fillWithoutCuts_43 : decode b_TB_fillWithoutCuts 43 = .ok (.getfield 56, 3) := by decide +kernel
theorem d_TB_fillWithoutCuts_46 : decode b_TB_fillWithoutCuts 46 = .ok (.aload_n 1, 1) := by decide +kernel
theorem d_TB_fillWithoutCuts_47 : decode b_TB_fillWithoutCuts 47 = .ok (.iload_n 2, 1) := by decide +kernel
theorem d_TB_fillWithoutCuts_48 : decode b_TB_fillWithoutCuts 48 = .ok (.aaload, 1) := by decide +kernel
theorem d_TB_fillWithoutCuts_49 : decode b_TB_fillWithoutCuts 49 = .ok (.getfield 61, 3) := by decide +kernel
theorem d_TB_fillWithoutCuts_52 : decode b_TB_fillWithoutCuts 52 = .ok (.invokevirtual 64, 3) := by decide +kernel
theorem d_TB_fillWithoutCuts_55 : decode b_TB_fillWithoutCuts 55 = .ok (.aload_n 1, 1) := by decide +kernel
theorem d_TB_fillWithoutCuts_56 : decode b_TB_fillWithoutCuts 56 = .ok (.iload_n 2, 1) := by decide +kernel
theorem d_TB_fillWithoutCuts_57 : decode b_TB_fillWithoutCuts 57 = .ok (.aaload, 1) := by decide +kernel
theorem d_TB_fillWithoutCuts_58 : decode b_TB_fillWithoutCuts 58 = .ok (.getfield 68, 3) := by decide +kernel
theorem d_TB_fillWithoutCuts_61 : decode b_TB_fillWithoutCuts 61 = .ok (.ifCond .eq 20, 3) := by decide +kernel
theorem d_TB_fillWithoutCuts_64 : decode b_TB_fillWithoutCuts 64 = .ok (.aload_n 0, 1) := by decide +kernel
theorem d_TB_fillWithoutCuts_65 : decode b_TB_fillWithoutCuts 65 = .ok (.iload_n 2, 1) := by decide +kernel
theorem d_TB_fillWithoutCuts_66 : decode b_TB_fillWithoutCuts 66 = .ok (.aload_n 1, 1) := by decide +kernel
theorem d_TB_fillWithoutCuts_67 : decode b_TB_fillWithoutCuts 67 = .ok (.iload_n 2, 1) := by decide +kernel
theorem d_TB_fillWithoutCuts_68 : decode b_TB_fillWithoutCuts 68 = .ok (.aaload, 1) := by decide +kernel
theorem d_TB_fillWithoutCuts_69 : decode b_TB_fillWithoutCuts 69 = .ok (.getfield 61, 3) := by decide +kernel
theorem d_TB_fillWithoutCuts_72 : decode b_TB_fillWithoutCuts 72 = .ok (.aload_n 1, 1) := by decide +kernel
theorem d_TB_fillWithoutCuts_73 : decode b_TB_fillWithoutCuts 73 = .ok (.iload_n 2, 1) := by decide +kernel
theorem d_TB_fillWithoutCuts_74 : decode b_TB_fillWithoutCuts 74 = .ok (.aaload, 1) := by decide +kernel
theorem d_TB_fillWithoutCuts_75 : decode b_TB_fillWithoutCuts 75 = .ok (.getfield 56, 3) := by decide +kernel
theorem d_TB_fillWithoutCuts_78 : decode b_TB_fillWithoutCuts 78 = .ok (.invokevirtual 64, 3) := by decide +kernel
theorem d_TB_fillWithoutCuts_81 : decode b_TB_fillWithoutCuts 81 = .ok (.iinc 2 (-1), 3) := by decide +kernel
theorem d_TB_fillWithoutCuts_84 : decode b_TB_fillWithoutCuts 84 = .ok (.goto (-62), 3) := by decide +kernel
theorem d_TB_fillWithoutCuts_87 : decode b_TB_fillWithoutCuts 87 = .ok (.return_, 1) := by decide +kernel
theorem d_TB_putPart_0 : decode b_TB_putPart 0 = .ok (.iload_n 2, 1) := by decide +kernel
theorem d_TB_putPart_1 : decode b_TB_putPart 1 = .ok (.iload_n 3, 1) := by decide +kernel
theorem d_TB_putPart_2 : decode b_TB_putPart 2 = .ok (.imul, 1) := by decide +kernel
theorem d_TB_putPart_3 : decode b_TB_putPart 3 = .ok (.sipush 1024, 3) := by decide +kernel
theorem d_TB_putPart_6 : decode b_TB_putPart 6 = .ok (.imul, 1) := by decide +kernel
theorem d_TB_putPart_7 : decode b_TB_putPart 7 = .ok (.istore 4, 2) := by decide +kernel
theorem d_TB_putPart_9 : decode b_TB_putPart 9 = .ok (.aload_n 0, 1) := by decide +kernel
theorem d_TB_putPart_10 : decode b_TB_putPart 10 = .ok (.iconst 0, 1) := by decide +kernel
theorem d_TB_putPart_11 : decode b_TB_putPart 11 = .ok (.iconst 0, 1) := by decide +kernel
theorem d_TB_putPart_12 : decode b_TB_putPart 12 = .ok (.iload_n 2, 1) := by decide +kernel
theorem d_TB_putPart_13 : decode b_TB_putPart 13 = .ok (.iload_n 3, 1) := by decide +kernel
theorem d_TB_putPart_14 : decode b_TB_putPart 14 = .ok (.invokestatic 40, 3) := by decide +kernel
theorem d_TB_putPart_17 : decode b_TB_putPart 17 = .ok (.iload 4, 2) := by decide +kernel
theorem d_TB_putPart_19 : decode b_TB_putPart 19 = .ok (.iload_n 1, 1) := by decide +kernel
theorem d_TB_putPart_20 : decode b_TB_putPart 20 = .ok (.invokevirtual 72, 3) := by decide +kernel
theorem d_TB_putPart_23 : decode b_TB_putPart 23 = .ok (.aload_n 0, 1) := by decide +kernel
theorem d_TB_putPart_24 : decode b_TB_putPart 24 = .ok (.iconst 0, 1) := by decide +kernel
theorem d_TB_putPart_25 : decode b_TB_putPart 25 = .ok (.iconst 1, 1) := by decide +kernel
theorem d_TB_putPart_26 : decode b_TB_putPart 26 = .ok (.iload_n 2, 1) := by decide +kernel
theorem d_TB_putPart_27 : decode b_TB_putPart 27 = .ok (.iload_n 3, 1) := by decide +kernel
theorem d_TB_putPart_28 : decode b_TB_putPart 28 = .ok (.invokestatic 40, 3) := by decide +kernel
theorem d_TB_putPart_31 : decode b_TB_putPart 31 = .ok (.iload 4, 2) := by decide +kernel
theorem d_TB_putPart_33 : decode b_TB_putPart 33 = .ok (.iload_n 1, 1) := by decide +kernel
theorem d_TB_putPart_34 : decode b_TB_putPart 34 = .ok (.invokevirtual 72, 3) := by decide +kernel
theorem d_TB_putPart_37 : decode b_TB_putPart 37 = .ok (.return_, 1) := by decide +kernel
theorem d_TB_fillStage_0 : decode b_TB_fillStage 0 = .ok (.iconst 1, 1) := by decide +kernel
theorem d_TB_fillStage_1 : decode b_TB_fillStage 1 = .ok (.istore_n 2, 1) := by decide +kernel
theorem d_TB_fillStage_2 : decode b_TB_fillStage 2 = .ok (.iload_n 2, 1) := by decide +kernel
theorem d_TB_fillStage_3 : decode b_TB_fillStage 3 = .ok (.bipush 16, 2) := by decide +kernel
theorem d_TB_fillStage_5 : decode b_TB_fillStage 5 = .ok (.if_icmp .gt 39, 3) := by decide +kernel
theorem d_TB_fillStage_8 : decode b_TB_fillStage 8 = .ok (.iconst 1, 1) := by decide +kernel
theorem d_TB_fillStage_9 : decode b_TB_fillStage 9 = .ok (.istore_n 3, 1) := by decide +kernel
theorem d_TB_fillStage_10 : decode b_TB_fillStage 10 = .ok (.iload_n 3, 1) := by decide +kernel
theorem d_TB_fillStage_11 : decode b_TB_fillStage 11 = .ok (.bipush 16, 2) := by decide +kernel
theorem d_TB_fillStage_13 : decode b_TB_fillStage 13 = .ok (.if_icmp .gt 25, 3) := by decide +kernel
theorem d_TB_fillStage_16 : decode b_TB_fillStage 16 = .ok (.aload_n 0, 1) := by decide +kernel
theorem d_TB_fillStage_17 : decode b_TB_fillStage 17 = .ok (.iload_n 1, 1) := by decide +kernel
theorem d_TB_fillStage_18 : decode b_TB_fillStage 18 = .ok (.iconst 0, 1) := by decide +kernel
theorem d_TB_fillStage_19 : decode b_TB_fillStage 19 = .ok (.iload_n 2, 1) := by decide +kernel
theorem d_TB_fillStage_20 : decode b_TB_fillStage 20 = .ok (.iload_n 3, 1) := by decide +kernel
theorem d_TB_fillStage_21 : decode b_TB_fillStage 21 = .ok (.invokevirtual 75, 3) := by decide +kernel
theorem d_TB_fillStage_24 : decode b_TB_fillStage 24 = .ok (.aload_n 0, 1) := by decide +kernel
theorem d_TB_fillStage_25 : decode b_TB_fillStage 25 = .ok (.iload_n 1, 1) := by decide +kernel
theorem d_TB_fillStage_26 : decode b_TB_fillStage 26 = .ok (.iconst 1, 1) := by decide +kernel
theorem d_TB_fillStage_27 : decode b_TB_fillStage 27 = .ok (.iload_n 2, 1) := by decide +kernel
theorem d_TB_fillStage_28 : decode b_TB_fillStage 28 = .ok (.iload_n 3, 1) := by decide +kernel
theorem d_TB_fillStage_29 : decode b_TB_fillStage 29 = .ok (.invokevirtual 75, 3) := by decide +kernel
theorem d_TB_fillStage_32 : decode b_TB_fillStage 32 = .ok (.iinc 3 1, 3) := by decide +kernel
theorem d_TB_fillStage_35 : decode b_TB_fillStage 35 = .ok (.goto (-25), 3) := by decide +kernel
theorem d_TB_fillStage_38 : decode b_TB_fillStage 38 = .ok (.iinc 2 1, 3) := by decide +kernel
theorem d_TB_fillStage_41 : decode b_TB_fillStage 41 = .ok (.goto (-39), 3) := by decide +kernel
theorem d_TB_fillStage_44 : decode b_TB_fillStage 44 = .ok (.return_, 1) := by decide +kernel
theorem d_TB_choose_0 : decode b_TB_choose 0 = .ok (.iconst 0, 1) := by decide +kernel
theorem d_TB_choose_1 : decode b_TB_choose 1 = .ok (.iload_n 2, 1) := by decide +kernel
theorem d_TB_choose_2 : decode b_TB_choose 2 = .ok (.iload_n 3, 1) := by decide +kernel
theorem d_TB_choose_3 : decode b_TB_choose 3 = .ok (.iload 4, 2) := by decide +kernel
theorem d_TB_choose_5 : decode b_TB_choose 5 = .ok (.invokestatic 40, 3) := by decide +kernel
theorem d_TB_choose_8 : decode b_TB_choose 8 = .ok (.istore 5, 2) := by decide +kernel
theorem d_TB_choose_10 : decode b_TB_choose 10 = .ok (.aload_n 0, 1) := by decide +kernel
theorem d_TB_choose_11 : decode b_TB_choose 11 = .ok (.iload 5, 2) := by decide +kernel
theorem d_TB_choose_13 : decode b_TB_choose 13 = .ok (.invokevirtual 43, 3) := by decide +kernel
theorem d_TB_choose_16 : decode b_TB_choose 16 = .ok (.istore 6, 2) := by decide +kernel
theorem d_TB_choose_18 : decode b_TB_choose 18 = .ok (.aload_n 0, 1) := by decide +kernel
theorem d_TB_choose_19 : decode b_TB_choose 19 = .ok (.iload 5, 2) := by decide +kernel
theorem d_TB_choose_21 : decode b_TB_choose 21 = .ok (.invokevirtual 47, 3) := by decide +kernel
theorem d_TB_choose_24 : decode b_TB_choose 24 = .ok (.istore 7, 2) := by decide +kernel
theorem d_TB_choose_26 : decode b_TB_choose 26 = .ok (.iload_n 2, 1) := by decide +kernel
theorem d_TB_choose_27 : decode b_TB_choose 27 = .ok (.ifCond .ne 7, 3) := by decide +kernel
theorem d_TB_choose_30 : decode b_TB_choose 30 = .ok (.iload_n 3, 1) := by decide +kernel
theorem d_TB_choose_31 : decode b_TB_choose 31 = .ok (.goto 5, 3) := by decide +kernel
theorem d_TB_choose_34 : decode b_TB_choose 34 = .ok (.iload 4, 2) := by decide +kernel
theorem d_TB_choose_36 : decode b_TB_choose 36 = .ok (.istore 8, 2) := by decide +kernel
theorem d_TB_choose_38 : decode b_TB_choose 38 = .ok (.iload_n 2, 1) := by decide +kernel
theorem d_TB_choose_39 : decode b_TB_choose 39 = .ok (.ifCond .ne 13, 3) := by decide +kernel
theorem d_TB_choose_42 : decode b_TB_choose 42 = .ok (.iconst 0, 1) := by decide +kernel
theorem d_TB_choose_43 : decode b_TB_choose 43 = .ok (.iconst 0, 1) := by decide +kernel
theorem d_TB_choose_44 : decode b_TB_choose 44 = .ok (.iconst 1, 1) := by decide +kernel
theorem d_TB_choose_45 : decode b_TB_choose 45 = .ok (.iconst 0, 1) := by decide +kernel
theorem d_TB_choose_46 : decode b_TB_choose 46 = .ok (.invokestatic 40, 3) := by decide +kernel
theorem d_TB_choose_49 : decode b_TB_choose 49 = .ok (.goto 10, 3) := by decide +kernel
theorem d_TB_choose_52 : decode b_TB_choose 52 = .ok (.iconst 0, 1) := by decide +kernel
theorem d_TB_choose_53 : decode b_TB_choose 53 = .ok (.iconst 0, 1) := by decide +kernel
theorem d_TB_choose_54 : decode b_TB_choose 54 = .ok (.iconst 0, 1) := by decide +kernel
theorem d_TB_choose_55 : decode b_TB_choose 55 = .ok (.iconst 1, 1) := by decide +kernel
theorem d_TB_choose_56 : decode b_TB_choose 56 = .ok (.invokestatic 40, 3) := by decide +kernel
theorem d_TB_choose_59 : decode b_TB_choose 59 = .ok (.istore 9, 2) := by decide +kernel
theorem d_TB_choose_61 : decode b_TB_choose 61 = .ok (.iload_n 1, 1) := by decide +kernel
theorem d_TB_choose_62 : decode b_TB_choose 62 = .ok (.iconst 1, 1) := by decide +kernel
theorem d_TB_choose_63 : decode b_TB_choose 63 = .ok (.isub, 1) := by decide +kernel
theorem d_TB_choose_64 : decode b_TB_choose 64 = .ok (.iconst 1, 1) := by decide +kernel
theorem d_TB_choose_65 : decode b_TB_choose 65 = .ok (.iload_n 2, 1) := by decide +kernel
theorem d_TB_choose_66 : decode b_TB_choose 66 = .ok (.isub, 1) := by decide +kernel
theorem d_TB_choose_67 : decode b_TB_choose 67 = .ok (.iload_n 3, 1) := by decide +kernel
theorem d_TB_choose_68 : decode b_TB_choose 68 = .ok (.iload 4, 2) := by decide +kernel
theorem d_TB_choose_70 : decode b_TB_choose 70 = .ok (.invokestatic 40, 3) := by decide +kernel
theorem d_TB_choose_73 : decode b_TB_choose 73 = .ok (.iload 8, 2) := by decide +kernel
theorem d_TB_choose_75 : decode b_TB_choose 75 = .ok (.iload 9, 2) := by decide +kernel
theorem d_TB_choose_77 : decode b_TB_choose 77 = .ok (.imul, 1) := by decide +kernel
theorem d_TB_choose_78 : decode b_TB_choose 78 = .ok (.isub, 1) := by decide +kernel
theorem d_TB_choose_79 : decode b_TB_choose 79 = .ok (.istore 10, 2) := by decide +kernel
theorem d_TB_choose_81 : decode b_TB_choose 81 = .ok (.iload_n 1, 1) := by decide +kernel
theorem d_TB_choose_82 : decode b_TB_choose 82 = .ok (.iload_n 2, 1) := by decide +kernel
theorem d_TB_choose_83 : decode b_TB_choose 83 = .ok (.iload_n 3, 1) := by decide +kernel
theorem d_TB_choose_84 : decode b_TB_choose 84 = .ok (.iload 4, 2) := by decide +kernel
theorem d_TB_choose_86 : decode b_TB_choose 86 = .ok (.invokestatic 40, 3) := by decide +kernel
theorem d_TB_choose_89 : decode b_TB_choose 89 = .ok (.iload 8, 2) := by decide +kernel
theorem d_TB_choose_91 : decode b_TB_choose 91 = .ok (.iload 9, 2) := by decide +kernel
theorem d_TB_choose_93 : decode b_TB_choose 93 = .ok (.imul, 1) := by decide +kernel
theorem d_TB_choose_94 : decode b_TB_choose 94 = .ok (.isub, 1) := by decide +kernel
theorem d_TB_choose_95 : decode b_TB_choose 95 = .ok (.istore 11, 2) := by decide +kernel
theorem d_TB_choose_97 : decode b_TB_choose 97 = .ok (.iconst 1, 1) := by decide +kernel
theorem d_TB_choose_98 : decode b_TB_choose 98 = .ok (.istore 12, 2) := by decide +kernel
theorem d_TB_choose_100 : decode b_TB_choose 100 = .ok (.iload 12, 2) := by decide +kernel
theorem d_TB_choose_102 : decode b_TB_choose 102 = .ok (.iload 8, 2) := by decide +kernel
theorem d_TB_choose_104 : decode b_TB_choose 104 = .ok (.if_icmp .ge 72, 3) := by decide +kernel
theorem d_TB_choose_107 : decode b_TB_choose 107 = .ok (.iconst 0, 1) := by decide +kernel
theorem d_TB_choose_108 : decode b_TB_choose 108 = .ok (.iload 8, 2) := by decide +kernel
theorem d_TB_choose_110 : decode b_TB_choose 110 = .ok (.iload 12, 2) := by decide +kernel
theorem d_TB_choose_112 : decode b_TB_choose 112 = .ok (.isub, 1) := by decide +kernel
theorem d_TB_choose_113 : decode b_TB_choose 113 = .ok (.aload_n 0, 1) := by decide +kernel
theorem d_TB_choose_114 : decode b_TB_choose 114 = .ok (.getfield 25, 3) := by decide +kernel
theorem d_TB_choose_117 : decode b_TB_choose 117 = .ok (.isub, 1) := by decide +kernel
theorem d_TB_choose_118 : decode b_TB_choose 118 = .ok (.invokestatic 79, 3) := by decide +kernel
theorem d_TB_choose_121 : decode b_TB_choose 121 = .ok (.istore 13, 2) := by decide +kernel
theorem d_TB_choose_123 : decode b_TB_choose 123 = .ok (.aload_n 0, 1) := by decide +kernel
theorem d_TB_choose_124 : decode b_TB_choose 124 = .ok (.iload 10, 2) := by decide +kernel
theorem d_TB_choose_126 : decode b_TB_choose 126 = .ok (.iload 12, 2) := by decide +kernel
theorem d_TB_choose_128 : decode b_TB_choose 128 = .ok (.iload 9, 2) := by decide +kernel
theorem d_TB_choose_130 : decode b_TB_choose 130 = .ok (.imul, 1) := by decide +kernel
theorem d_TB_choose_131 : decode b_TB_choose 131 = .ok (.iadd, 1) := by decide +kernel
theorem d_TB_choose_132 : decode b_TB_choose 132 = .ok (.invokevirtual 43, 3) := by decide +kernel
theorem d_TB_choose_135 : decode b_TB_choose 135 = .ok (.aload_n 0, 1) := by decide +kernel
theorem d_TB_choose_136 : decode b_TB_choose 136 = .ok (.iload 11, 2) := by decide +kernel
theorem d_TB_choose_138 : decode b_TB_choose 138 = .ok (.iload 13, 2) := by decide +kernel
theorem d_TB_choose_140 : decode b_TB_choose 140 = .ok (.iload 9, 2) := by decide +kernel
theorem d_TB_choose_142 : decode b_TB_choose 142 = .ok (.imul, 1) := by decide +kernel
theorem d_TB_choose_143 : decode b_TB_choose 143 = .ok (.iadd, 1) := by decide +kernel
theorem d_TB_choose_144 : decode b_TB_choose 144 = .ok (.invokevirtual 43, 3) := by decide +kernel
theorem d_TB_choose_147 : decode b_TB_choose 147 = .ok (.iadd, 1) := by decide +kernel
theorem d_TB_choose_148 : decode b_TB_choose 148 = .ok (.iconst 1, 1) := by decide +kernel
theorem d_TB_choose_149 : decode b_TB_choose 149 = .ok (.isub, 1) := by decide +kernel
theorem d_TB_choose_150 : decode b_TB_choose 150 = .ok (.istore 14, 2) := by decide +kernel
theorem d_TB_choose_152 : decode b_TB_choose 152 = .ok (.iload 14, 2) := by decide +kernel
theorem d_TB_choose_154 : decode b_TB_choose 154 = .ok (.iload 6, 2) := by decide +kernel
theorem d_TB_choose_156 : decode b_TB_choose 156 = .ok (.if_icmp .le 14, 3) := by decide +kernel
theorem d_TB_choose_159 : decode b_TB_choose 159 = .ok (.iload 14, 2) := by decide +kernel
theorem d_TB_choose_161 : decode b_TB_choose 161 = .ok (.istore 6, 2) := by decide +kernel
theorem d_TB_choose_163 : decode b_TB_choose 163 = .ok (.bipush 8, 2) := by decide +kernel
theorem d_TB_choose_165 : decode b_TB_choose 165 = .ok (.iload 12, 2) := by decide +kernel
theorem d_TB_choose_167 : decode b_TB_choose 167 = .ok (.iadd, 1) := by decide +kernel
theorem d_TB_choose_168 : decode b_TB_choose 168 = .ok (.istore 7, 2) := by decide +kernel
theorem d_TB_choose_170 : decode b_TB_choose 170 = .ok (.iinc 12 1, 3) := by decide +kernel
theorem d_TB_choose_173 : decode b_TB_choose 173 = .ok (.goto (-73), 3) := by decide +kernel
theorem d_TB_choose_176 : decode b_TB_choose 176 = .ok (.aload_n 0, 1) := by decide +kernel
theorem d_TB_choose_177 : decode b_TB_choose 177 = .ok (.iload 11, 2) := by decide +kernel
theorem d_TB_choose_179 : decode b_TB_choose 179 = .ok (.iload 8, 2) := by decide +kernel
theorem d_TB_choose_181 : decode b_TB_choose 181 = .ok (.iload 9, 2) := by decide +kernel
theorem d_TB_choose_183 : decode b_TB_choose 183 = .ok (.imul, 1) := by decide +kernel
theorem d_TB_choose_184 : decode b_TB_choose 184 = .ok (.iadd, 1) := by decide +kernel
theorem d_TB_choose_185 : decode b_TB_choose 185 = .ok (.iload 6, 2) := by decide +kernel
theorem d_TB_choose_187 : decode b_TB_choose 187 = .ok (.iload 7, 2) := by decide +kernel
theorem d_TB_choose_189 : decode b_TB_choose 189 = .ok (.invokevirtual 72, 3) := by decide +kernel
theorem d_TB_choose_192 : decode b_TB_choose 192 = .ok (.return_, 1) := by decide +kernel
theorem d_AR_fill_0 : decode b_AR_fill 0 = .ok (.iconst 0, 1) := by decide +kernel
theorem d_AR_fill_1 : decode b_AR_fill 1 = .ok (.istore_n 2, 1) := by decide +kernel
theorem d_AR_fill_2 : decode b_AR_fill 2 = .ok (.aload_n 0, 1) := by decide +kernel
theorem d_AR_fill_3 : decode b_AR_fill 3 = .ok (.arraylength, 1) := by decide +kernel
theorem d_AR_fill_4 : decode b_AR_fill 4 = .ok (.istore_n 3, 1) := by decide +kernel
theorem d_AR_fill_5 : decode b_AR_fill 5 = .ok (.iload_n 2, 1) := by decide +kernel
theorem d_AR_fill_6 : decode b_AR_fill 6 = .ok (.iload_n 3, 1) := by decide +kernel
theorem d_AR_fill_7 : decode b_AR_fill 7 = .ok (.if_icmp .ge 13, 3) := by decide +kernel
theorem d_AR_fill_10 : decode b_AR_fill 10 = .ok (.aload_n 0, 1) := by decide +kernel
theorem d_AR_fill_11 : decode b_AR_fill 11 = .ok (.iload_n 2, 1) := by decide +kernel
theorem d_AR_fill_12 : decode b_AR_fill 12 = .ok (.iload_n 1, 1) := by decide +kernel
theorem d_AR_fill_13 : decode b_AR_fill 13 = .ok (.iastore, 1) := by decide +kernel
theorem d_AR_fill_14 : decode b_AR_fill 14 = .ok (.iinc 2 1, 3) := by decide +kernel
theorem d_AR_fill_17 : decode b_AR_fill 17 = .ok (.goto (-12), 3) := by decide +kernel
theorem d_AR_fill_20 : decode b_AR_fill 20 = .ok (.return_, 1) := by decide +kernel
end
