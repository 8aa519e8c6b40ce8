section
-- ===== PART A: goes FIRST, ahead of the names: the tables' words, and 'selects' of the private methods out of them =====
/-- a private method of a class that the tables say can be made, by its rows of tables_1 -/
def lw_okq (q : MethodName × Nat) : Prop := (q.1.cls ≠ "java/lang/invoke/MethodHandle" ∧ q.1.cls ≠ "java/lang/invoke/VarHandle") ∧ Cond.instantiable q.1.cls q.2 ∈ tables_1 ∧ Cond.privateMethod q.1 ∈ tables_1 ∧ Cond.instanceMethod q.1 ∈ tables_1
theorem lw_p0 : lw_okq (⟨"BoardSums", "refuse", "(I)I"⟩, 9) := ⟨⟨by decide +kernel, by decide +kernel⟩, List.mem_of_getElem? (i := 22) (by decide +kernel), List.mem_of_getElem? (i := 323) (by decide +kernel), List.mem_of_getElem? (i := 324) (by decide +kernel)⟩
theorem lw_p1 : lw_okq (⟨"BoardSums", "accept", "(I)I"⟩, 9) := ⟨⟨by decide +kernel, by decide +kernel⟩, List.mem_of_getElem? (i := 22) (by decide +kernel), List.mem_of_getElem? (i := 330) (by decide +kernel), List.mem_of_getElem? (i := 331) (by decide +kernel)⟩
theorem lw_p2 : lw_okq (⟨"BoardSums", "put", "(III)V"⟩, 9) := ⟨⟨by decide +kernel, by decide +kernel⟩, List.mem_of_getElem? (i := 22) (by decide +kernel), List.mem_of_getElem? (i := 354) (by decide +kernel), List.mem_of_getElem? (i := 355) (by decide +kernel)⟩
theorem lw_p3 : lw_okq (⟨"BoardSums$Works", "tilesFrom", "(LBoardSums$Recipe;II)I"⟩, 7) := ⟨⟨by decide +kernel, by decide +kernel⟩, List.mem_of_getElem? (i := 204) (by decide +kernel), List.mem_of_getElem? (i := 363) (by decide +kernel), List.mem_of_getElem? (i := 364) (by decide +kernel)⟩
theorem lw_p4 : lw_okq (⟨"BoardSums$Works", "across", "(LBoardSums$Recipe;I)I"⟩, 7) := ⟨⟨by decide +kernel, by decide +kernel⟩, List.mem_of_getElem? (i := 204) (by decide +kernel), List.mem_of_getElem? (i := 367) (by decide +kernel), List.mem_of_getElem? (i := 368) (by decide +kernel)⟩
theorem lw_p5 : lw_okq (⟨"BoardSums$Tokens", "isStart", "(I)Z"⟩, 6) := ⟨⟨by decide +kernel, by decide +kernel⟩, List.mem_of_getElem? (i := 172) (by decide +kernel), List.mem_of_getElem? (i := 412) (by decide +kernel), List.mem_of_getElem? (i := 413) (by decide +kernel)⟩
theorem lw_p6 : lw_okq (⟨"BoardSums$Tokens", "holdAt", "(I)V"⟩, 6) := ⟨⟨by decide +kernel, by decide +kernel⟩, List.mem_of_getElem? (i := 172) (by decide +kernel), List.mem_of_getElem? (i := 429) (by decide +kernel), List.mem_of_getElem? (i := 430) (by decide +kernel)⟩
theorem lw_p7 : lw_okq (⟨"BoardSums$Tokens", "holdLetters", "(I)V"⟩, 6) := ⟨⟨by decide +kernel, by decide +kernel⟩, List.mem_of_getElem? (i := 172) (by decide +kernel), List.mem_of_getElem? (i := 433) (by decide +kernel), List.mem_of_getElem? (i := 434) (by decide +kernel)⟩
theorem lw_p8 : lw_okq (⟨"BoardSums$Tokens", "hold", "(III)V"⟩, 6) := ⟨⟨by decide +kernel, by decide +kernel⟩, List.mem_of_getElem? (i := 172) (by decide +kernel), List.mem_of_getElem? (i := 437) (by decide +kernel), List.mem_of_getElem? (i := 438) (by decide +kernel)⟩
theorem lw_p9 : lw_okq (⟨"BoardSums$Tokens", "isSpelled", "(Ljava/lang/String;II)Z"⟩, 6) := ⟨⟨by decide +kernel, by decide +kernel⟩, List.mem_of_getElem? (i := 172) (by decide +kernel), List.mem_of_getElem? (i := 460) (by decide +kernel), List.mem_of_getElem? (i := 461) (by decide +kernel)⟩
theorem lw_p10 : lw_okq (⟨"BoardSums$Tokens", "holdDigits", "(I)V"⟩, 6) := ⟨⟨by decide +kernel, by decide +kernel⟩, List.mem_of_getElem? (i := 172) (by decide +kernel), List.mem_of_getElem? (i := 512) (by decide +kernel), List.mem_of_getElem? (i := 513) (by decide +kernel)⟩
theorem lw_p11 : lw_okq (⟨"BoardSums$Reader", "readBoard", "()Z"⟩, 2) := ⟨⟨by decide +kernel, by decide +kernel⟩, List.mem_of_getElem? (i := 166) (by decide +kernel), List.mem_of_getElem? (i := 520) (by decide +kernel), List.mem_of_getElem? (i := 521) (by decide +kernel)⟩
theorem lw_p12 : lw_okq (⟨"BoardSums$Reader", "readMaking", "(LBoardSums$Recipe;)Z"⟩, 2) := ⟨⟨by decide +kernel, by decide +kernel⟩, List.mem_of_getElem? (i := 166) (by decide +kernel), List.mem_of_getElem? (i := 546) (by decide +kernel), List.mem_of_getElem? (i := 547) (by decide +kernel)⟩
theorem lw_p13 : lw_okq (⟨"BoardSums$Reader", "readNumber", "(LBoardSums$Recipe;II)Z"⟩, 2) := ⟨⟨by decide +kernel, by decide +kernel⟩, List.mem_of_getElem? (i := 166) (by decide +kernel), List.mem_of_getElem? (i := 554) (by decide +kernel), List.mem_of_getElem? (i := 555) (by decide +kernel)⟩
theorem lw_p14 : lw_okq (⟨"BoardSums$Reader", "readNames", "(LBoardSums$Recipe;I)Z"⟩, 2) := ⟨⟨by decide +kernel, by decide +kernel⟩, List.mem_of_getElem? (i := 166) (by decide +kernel), List.mem_of_getElem? (i := 558) (by decide +kernel), List.mem_of_getElem? (i := 559) (by decide +kernel)⟩
theorem lw_p15 : lw_okq (⟨"BoardSums$Reader", "readSigned", "(LBoardSums$Recipe;)Z"⟩, 2) := ⟨⟨by decide +kernel, by decide +kernel⟩, List.mem_of_getElem? (i := 166) (by decide +kernel), List.mem_of_getElem? (i := 566) (by decide +kernel), List.mem_of_getElem? (i := 567) (by decide +kernel)⟩
def lw_privs_1 : List (MethodName × Nat) := [(⟨"BoardSums", "refuse", "(I)I"⟩, 9), (⟨"BoardSums", "accept", "(I)I"⟩, 9), (⟨"BoardSums", "put", "(III)V"⟩, 9), (⟨"BoardSums$Works", "tilesFrom", "(LBoardSums$Recipe;II)I"⟩, 7), (⟨"BoardSums$Works", "across", "(LBoardSums$Recipe;I)I"⟩, 7), (⟨"BoardSums$Tokens", "isStart", "(I)Z"⟩, 6), (⟨"BoardSums$Tokens", "holdAt", "(I)V"⟩, 6), (⟨"BoardSums$Tokens", "holdLetters", "(I)V"⟩, 6), (⟨"BoardSums$Tokens", "hold", "(III)V"⟩, 6), (⟨"BoardSums$Tokens", "isSpelled", "(Ljava/lang/String;II)Z"⟩, 6), (⟨"BoardSums$Tokens", "holdDigits", "(I)V"⟩, 6), (⟨"BoardSums$Reader", "readBoard", "()Z"⟩, 2), (⟨"BoardSums$Reader", "readMaking", "(LBoardSums$Recipe;)Z"⟩, 2), (⟨"BoardSums$Reader", "readNumber", "(LBoardSums$Recipe;II)Z"⟩, 2), (⟨"BoardSums$Reader", "readNames", "(LBoardSums$Recipe;I)Z"⟩, 2), (⟨"BoardSums$Reader", "readSigned", "(LBoardSums$Recipe;)Z"⟩, 2)]
theorem lw_r1 : ∀ q ∈ lw_privs_1, lw_okq q := List.forall_mem_cons.mpr ⟨lw_p0, List.forall_mem_cons.mpr ⟨lw_p1, List.forall_mem_cons.mpr ⟨lw_p2, List.forall_mem_cons.mpr ⟨lw_p3, List.forall_mem_cons.mpr ⟨lw_p4, List.forall_mem_cons.mpr ⟨lw_p5, List.forall_mem_cons.mpr ⟨lw_p6, List.forall_mem_cons.mpr ⟨lw_p7, List.forall_mem_cons.mpr ⟨lw_p8, List.forall_mem_cons.mpr ⟨lw_p9, List.forall_mem_cons.mpr ⟨lw_p10, List.forall_mem_cons.mpr ⟨lw_p11, List.forall_mem_cons.mpr ⟨lw_p12, List.forall_mem_cons.mpr ⟨lw_p13, List.forall_mem_cons.mpr ⟨lw_p14, List.forall_mem_cons.mpr ⟨lw_p15, fun _ h => absurd h List.not_mem_nil⟩⟩⟩⟩⟩⟩⟩⟩⟩⟩⟩⟩⟩⟩⟩⟩
theorem lw_p16 : lw_okq (⟨"BoardSums$Reader", "readHow", "(LBoardSums$Recipe;)Z"⟩, 2) := ⟨⟨by decide +kernel, by decide +kernel⟩, List.mem_of_getElem? (i := 166) (by decide +kernel), List.mem_of_getElem? (i := 571) (by decide +kernel), List.mem_of_getElem? (i := 572) (by decide +kernel)⟩
theorem lw_p17 : lw_okq (⟨"BoardSums$Works", "reachNeeded", "(II)V"⟩, 7) := ⟨⟨by decide +kernel, by decide +kernel⟩, List.mem_of_getElem? (i := 204) (by decide +kernel), List.mem_of_getElem? (i := 613) (by decide +kernel), List.mem_of_getElem? (i := 614) (by decide +kernel)⟩
theorem lw_p18 : lw_okq (⟨"BoardSums$Works", "makeTiles", "(II)V"⟩, 7) := ⟨⟨by decide +kernel, by decide +kernel⟩, List.mem_of_getElem? (i := 204) (by decide +kernel), List.mem_of_getElem? (i := 617) (by decide +kernel), List.mem_of_getElem? (i := 618) (by decide +kernel)⟩
theorem lw_p19 : lw_okq (⟨"BoardSums$Maker", "zones", "(I[I[I[I)V"⟩, 7) := ⟨⟨by decide +kernel, by decide +kernel⟩, List.mem_of_getElem? (i := 211) (by decide +kernel), List.mem_of_getElem? (i := 625) (by decide +kernel), List.mem_of_getElem? (i := 626) (by decide +kernel)⟩
theorem lw_p20 : lw_okq (⟨"BoardSums$Maker", "tallyZone", "([I[II)V"⟩, 7) := ⟨⟨by decide +kernel, by decide +kernel⟩, List.mem_of_getElem? (i := 211) (by decide +kernel), List.mem_of_getElem? (i := 630) (by decide +kernel), List.mem_of_getElem? (i := 631) (by decide +kernel)⟩
theorem lw_p21 : lw_okq (⟨"BoardSums$Maker", "fillZone", "(I[II[I)V"⟩, 7) := ⟨⟨by decide +kernel, by decide +kernel⟩, List.mem_of_getElem? (i := 211) (by decide +kernel), List.mem_of_getElem? (i := 654) (by decide +kernel), List.mem_of_getElem? (i := 655) (by decide +kernel)⟩
theorem lw_p22 : lw_okq (⟨"BoardSums$Maker", "ways", "([I[I[I)V"⟩, 7) := ⟨⟨by decide +kernel, by decide +kernel⟩, List.mem_of_getElem? (i := 211) (by decide +kernel), List.mem_of_getElem? (i := 658) (by decide +kernel), List.mem_of_getElem? (i := 659) (by decide +kernel)⟩
theorem lw_p23 : lw_okq (⟨"BoardSums$Maker", "shorten", "([I[II)Z"⟩, 7) := ⟨⟨by decide +kernel, by decide +kernel⟩, List.mem_of_getElem? (i := 211) (by decide +kernel), List.mem_of_getElem? (i := 662) (by decide +kernel), List.mem_of_getElem? (i := 663) (by decide +kernel)⟩
theorem lw_p24 : lw_okq (⟨"BoardSums$Maker", "flows", "([I[I)V"⟩, 7) := ⟨⟨by decide +kernel, by decide +kernel⟩, List.mem_of_getElem? (i := 211) (by decide +kernel), List.mem_of_getElem? (i := 670) (by decide +kernel), List.mem_of_getElem? (i := 671) (by decide +kernel)⟩
theorem lw_p25 : lw_okq (⟨"BoardSums$Maker", "lowestSide", "([II)I"⟩, 7) := ⟨⟨by decide +kernel, by decide +kernel⟩, List.mem_of_getElem? (i := 211) (by decide +kernel), List.mem_of_getElem? (i := 674) (by decide +kernel), List.mem_of_getElem? (i := 675) (by decide +kernel)⟩
theorem lw_p26 : lw_okq (⟨"BoardSums$Maker", "runDown", "([II)V"⟩, 7) := ⟨⟨by decide +kernel, by decide +kernel⟩, List.mem_of_getElem? (i := 211) (by decide +kernel), List.mem_of_getElem? (i := 678) (by decide +kernel), List.mem_of_getElem? (i := 679) (by decide +kernel)⟩
theorem lw_p27 : lw_okq (⟨"BoardSums$Maker", "near", "(LBoardSums$Recipe;II)I"⟩, 7) := ⟨⟨by decide +kernel, by decide +kernel⟩, List.mem_of_getElem? (i := 211) (by decide +kernel), List.mem_of_getElem? (i := 706) (by decide +kernel), List.mem_of_getElem? (i := 707) (by decide +kernel)⟩
theorem lw_p28 : lw_okq (⟨"BoardSums$Maker", "single", "(LBoardSums$Recipe;I)I"⟩, 7) := ⟨⟨by decide +kernel, by decide +kernel⟩, List.mem_of_getElem? (i := 211) (by decide +kernel), List.mem_of_getElem? (i := 711) (by decide +kernel), List.mem_of_getElem? (i := 712) (by decide +kernel)⟩
theorem lw_p29 : lw_okq (⟨"BoardSums", "bringBack", "(II)I"⟩, 9) := ⟨⟨by decide +kernel, by decide +kernel⟩, List.mem_of_getElem? (i := 22) (by decide +kernel), List.mem_of_getElem? (i := 764) (by decide +kernel), List.mem_of_getElem? (i := 765) (by decide +kernel)⟩
theorem lw_p30 : lw_okq (⟨"BoardSumsModel", "clearSheets", "()V"⟩, 38) := ⟨⟨by decide +kernel, by decide +kernel⟩, List.mem_of_getElem? (i := 781) (by decide +kernel), List.mem_of_getElem? (i := 787) (by decide +kernel), List.mem_of_getElem? (i := 788) (by decide +kernel)⟩
theorem lw_p31 : lw_okq (⟨"BoardSumsModel", "staleAll", "()V"⟩, 38) := ⟨⟨by decide +kernel, by decide +kernel⟩, List.mem_of_getElem? (i := 781) (by decide +kernel), List.mem_of_getElem? (i := 792) (by decide +kernel), List.mem_of_getElem? (i := 793) (by decide +kernel)⟩
def lw_privs_2 : List (MethodName × Nat) := [(⟨"BoardSums$Reader", "readHow", "(LBoardSums$Recipe;)Z"⟩, 2), (⟨"BoardSums$Works", "reachNeeded", "(II)V"⟩, 7), (⟨"BoardSums$Works", "makeTiles", "(II)V"⟩, 7), (⟨"BoardSums$Maker", "zones", "(I[I[I[I)V"⟩, 7), (⟨"BoardSums$Maker", "tallyZone", "([I[II)V"⟩, 7), (⟨"BoardSums$Maker", "fillZone", "(I[II[I)V"⟩, 7), (⟨"BoardSums$Maker", "ways", "([I[I[I)V"⟩, 7), (⟨"BoardSums$Maker", "shorten", "([I[II)Z"⟩, 7), (⟨"BoardSums$Maker", "flows", "([I[I)V"⟩, 7), (⟨"BoardSums$Maker", "lowestSide", "([II)I"⟩, 7), (⟨"BoardSums$Maker", "runDown", "([II)V"⟩, 7), (⟨"BoardSums$Maker", "near", "(LBoardSums$Recipe;II)I"⟩, 7), (⟨"BoardSums$Maker", "single", "(LBoardSums$Recipe;I)I"⟩, 7), (⟨"BoardSums", "bringBack", "(II)I"⟩, 9), (⟨"BoardSumsModel", "clearSheets", "()V"⟩, 38), (⟨"BoardSumsModel", "staleAll", "()V"⟩, 38)]
theorem lw_r2 : ∀ q ∈ lw_privs_2, lw_okq q := List.forall_mem_cons.mpr ⟨lw_p16, List.forall_mem_cons.mpr ⟨lw_p17, List.forall_mem_cons.mpr ⟨lw_p18, List.forall_mem_cons.mpr ⟨lw_p19, List.forall_mem_cons.mpr ⟨lw_p20, List.forall_mem_cons.mpr ⟨lw_p21, List.forall_mem_cons.mpr ⟨lw_p22, List.forall_mem_cons.mpr ⟨lw_p23, List.forall_mem_cons.mpr ⟨lw_p24, List.forall_mem_cons.mpr ⟨lw_p25, List.forall_mem_cons.mpr ⟨lw_p26, List.forall_mem_cons.mpr ⟨lw_p27, List.forall_mem_cons.mpr ⟨lw_p28, List.forall_mem_cons.mpr ⟨lw_p29, List.forall_mem_cons.mpr ⟨lw_p30, List.forall_mem_cons.mpr ⟨lw_p31, fun _ h => absurd h List.not_mem_nil⟩⟩⟩⟩⟩⟩⟩⟩⟩⟩⟩⟩⟩⟩⟩⟩
theorem lw_p32 : lw_okq (⟨"BoardSumsModel", "answer", "(I)I"⟩, 38) := ⟨⟨by decide +kernel, by decide +kernel⟩, List.mem_of_getElem? (i := 781) (by decide +kernel), List.mem_of_getElem? (i := 921) (by decide +kernel), List.mem_of_getElem? (i := 922) (by decide +kernel)⟩
theorem lw_p33 : lw_okq (⟨"BoardSumsModel", "isCell", "(II)Z"⟩, 38) := ⟨⟨by decide +kernel, by decide +kernel⟩, List.mem_of_getElem? (i := 781) (by decide +kernel), List.mem_of_getElem? (i := 932) (by decide +kernel), List.mem_of_getElem? (i := 933) (by decide +kernel)⟩
theorem lw_p34 : lw_okq (⟨"BoardSumsModel", "put", "(IIII)V"⟩, 38) := ⟨⟨by decide +kernel, by decide +kernel⟩, List.mem_of_getElem? (i := 781) (by decide +kernel), List.mem_of_getElem? (i := 936) (by decide +kernel), List.mem_of_getElem? (i := 937) (by decide +kernel)⟩
theorem lw_p35 : lw_okq (⟨"BoardSumsModel", "fromOf", "(III)I"⟩, 38) := ⟨⟨by decide +kernel, by decide +kernel⟩, List.mem_of_getElem? (i := 781) (by decide +kernel), List.mem_of_getElem? (i := 943) (by decide +kernel), List.mem_of_getElem? (i := 944) (by decide +kernel)⟩
theorem lw_p36 : lw_okq (⟨"BoardSumsModel", "findNeeds", "(II)V"⟩, 38) := ⟨⟨by decide +kernel, by decide +kernel⟩, List.mem_of_getElem? (i := 781) (by decide +kernel), List.mem_of_getElem? (i := 947) (by decide +kernel), List.mem_of_getElem? (i := 948) (by decide +kernel)⟩
theorem lw_p37 : lw_okq (⟨"BoardSumsModel", "needOf", "(II)I"⟩, 38) := ⟨⟨by decide +kernel, by decide +kernel⟩, List.mem_of_getElem? (i := 781) (by decide +kernel), List.mem_of_getElem? (i := 951) (by decide +kernel), List.mem_of_getElem? (i := 952) (by decide +kernel)⟩
theorem lw_p38 : lw_okq (⟨"BoardSumsModel", "allTiles", "()I"⟩, 38) := ⟨⟨by decide +kernel, by decide +kernel⟩, List.mem_of_getElem? (i := 781) (by decide +kernel), List.mem_of_getElem? (i := 955) (by decide +kernel), List.mem_of_getElem? (i := 956) (by decide +kernel)⟩
theorem lw_p39 : lw_okq (⟨"BoardSumsModel", "isTile", "(I)Z"⟩, 38) := ⟨⟨by decide +kernel, by decide +kernel⟩, List.mem_of_getElem? (i := 781) (by decide +kernel), List.mem_of_getElem? (i := 959) (by decide +kernel), List.mem_of_getElem? (i := 960) (by decide +kernel)⟩
theorem lw_p40 : lw_okq (⟨"BoardSumsModel", "isBoard", "(I)Z"⟩, 38) := ⟨⟨by decide +kernel, by decide +kernel⟩, List.mem_of_getElem? (i := 781) (by decide +kernel), List.mem_of_getElem? (i := 972) (by decide +kernel), List.mem_of_getElem? (i := 973) (by decide +kernel)⟩
theorem lw_p41 : lw_okq (⟨"BoardSumsModel", "workOut", "(I)V"⟩, 38) := ⟨⟨by decide +kernel, by decide +kernel⟩, List.mem_of_getElem? (i := 781) (by decide +kernel), List.mem_of_getElem? (i := 988) (by decide +kernel), List.mem_of_getElem? (i := 989) (by decide +kernel)⟩
theorem lw_p42 : lw_okq (⟨"BoardSumsModel", "workWay", "(I)V"⟩, 38) := ⟨⟨by decide +kernel, by decide +kernel⟩, List.mem_of_getElem? (i := 781) (by decide +kernel), List.mem_of_getElem? (i := 992) (by decide +kernel), List.mem_of_getElem? (i := 993) (by decide +kernel)⟩
theorem lw_p43 : lw_okq (⟨"BoardSumsModel", "at", "(III)I"⟩, 38) := ⟨⟨by decide +kernel, by decide +kernel⟩, List.mem_of_getElem? (i := 781) (by decide +kernel), List.mem_of_getElem? (i := 996) (by decide +kernel), List.mem_of_getElem? (i := 997) (by decide +kernel)⟩
theorem lw_p44 : lw_okq (⟨"BoardSumsModel", "set", "(IIII)V"⟩, 38) := ⟨⟨by decide +kernel, by decide +kernel⟩, List.mem_of_getElem? (i := 781) (by decide +kernel), List.mem_of_getElem? (i := 1012) (by decide +kernel), List.mem_of_getElem? (i := 1013) (by decide +kernel)⟩
theorem lw_p45 : lw_okq (⟨"BoardSumsModel", "workFlow", "(I)V"⟩, 38) := ⟨⟨by decide +kernel, by decide +kernel⟩, List.mem_of_getElem? (i := 781) (by decide +kernel), List.mem_of_getElem? (i := 1016) (by decide +kernel), List.mem_of_getElem? (i := 1017) (by decide +kernel)⟩
theorem lw_p46 : lw_okq (⟨"BoardSumsModel", "flowOf", "(III)I"⟩, 38) := ⟨⟨by decide +kernel, by decide +kernel⟩, List.mem_of_getElem? (i := 781) (by decide +kernel), List.mem_of_getElem? (i := 1020) (by decide +kernel), List.mem_of_getElem? (i := 1021) (by decide +kernel)⟩
theorem lw_p47 : lw_okq (⟨"BoardSumsModel", "valueOf", "(III)I"⟩, 38) := ⟨⟨by decide +kernel, by decide +kernel⟩, List.mem_of_getElem? (i := 781) (by decide +kernel), List.mem_of_getElem? (i := 1024) (by decide +kernel), List.mem_of_getElem? (i := 1025) (by decide +kernel)⟩
def lw_privs_3 : List (MethodName × Nat) := [(⟨"BoardSumsModel", "answer", "(I)I"⟩, 38), (⟨"BoardSumsModel", "isCell", "(II)Z"⟩, 38), (⟨"BoardSumsModel", "put", "(IIII)V"⟩, 38), (⟨"BoardSumsModel", "fromOf", "(III)I"⟩, 38), (⟨"BoardSumsModel", "findNeeds", "(II)V"⟩, 38), (⟨"BoardSumsModel", "needOf", "(II)I"⟩, 38), (⟨"BoardSumsModel", "allTiles", "()I"⟩, 38), (⟨"BoardSumsModel", "isTile", "(I)Z"⟩, 38), (⟨"BoardSumsModel", "isBoard", "(I)Z"⟩, 38), (⟨"BoardSumsModel", "workOut", "(I)V"⟩, 38), (⟨"BoardSumsModel", "workWay", "(I)V"⟩, 38), (⟨"BoardSumsModel", "at", "(III)I"⟩, 38), (⟨"BoardSumsModel", "set", "(IIII)V"⟩, 38), (⟨"BoardSumsModel", "workFlow", "(I)V"⟩, 38), (⟨"BoardSumsModel", "flowOf", "(III)I"⟩, 38), (⟨"BoardSumsModel", "valueOf", "(III)I"⟩, 38)]
theorem lw_r3 : ∀ q ∈ lw_privs_3, lw_okq q := List.forall_mem_cons.mpr ⟨lw_p32, List.forall_mem_cons.mpr ⟨lw_p33, List.forall_mem_cons.mpr ⟨lw_p34, List.forall_mem_cons.mpr ⟨lw_p35, List.forall_mem_cons.mpr ⟨lw_p36, List.forall_mem_cons.mpr ⟨lw_p37, List.forall_mem_cons.mpr ⟨lw_p38, List.forall_mem_cons.mpr ⟨lw_p39, List.forall_mem_cons.mpr ⟨lw_p40, List.forall_mem_cons.mpr ⟨lw_p41, List.forall_mem_cons.mpr ⟨lw_p42, List.forall_mem_cons.mpr ⟨lw_p43, List.forall_mem_cons.mpr ⟨lw_p44, List.forall_mem_cons.mpr ⟨lw_p45, List.forall_mem_cons.mpr ⟨lw_p46, List.forall_mem_cons.mpr ⟨lw_p47, fun _ h => absurd h List.not_mem_nil⟩⟩⟩⟩⟩⟩⟩⟩⟩⟩⟩⟩⟩⟩⟩⟩
theorem lw_p48 : lw_okq (⟨"BoardSumsModel", "begin", "()V"⟩, 38) := ⟨⟨by decide +kernel, by decide +kernel⟩, List.mem_of_getElem? (i := 781) (by decide +kernel), List.mem_of_getElem? (i := 1028) (by decide +kernel), List.mem_of_getElem? (i := 1029) (by decide +kernel)⟩
theorem lw_p49 : lw_okq (⟨"BoardSumsModel", "take", "(I)V"⟩, 38) := ⟨⟨by decide +kernel, by decide +kernel⟩, List.mem_of_getElem? (i := 781) (by decide +kernel), List.mem_of_getElem? (i := 1032) (by decide +kernel), List.mem_of_getElem? (i := 1033) (by decide +kernel)⟩
theorem lw_p50 : lw_okq (⟨"BoardSumsModel", "taken", "(I)I"⟩, 38) := ⟨⟨by decide +kernel, by decide +kernel⟩, List.mem_of_getElem? (i := 781) (by decide +kernel), List.mem_of_getElem? (i := 1036) (by decide +kernel), List.mem_of_getElem? (i := 1037) (by decide +kernel)⟩
theorem lw_p51 : lw_okq (⟨"BoardSumsModel", "cellOf", "(III)I"⟩, 38) := ⟨⟨by decide +kernel, by decide +kernel⟩, List.mem_of_getElem? (i := 781) (by decide +kernel), List.mem_of_getElem? (i := 1040) (by decide +kernel), List.mem_of_getElem? (i := 1041) (by decide +kernel)⟩
theorem lw_p52 : lw_okq (⟨"BoardSumsModel", "four", "(I)V"⟩, 38) := ⟨⟨by decide +kernel, by decide +kernel⟩, List.mem_of_getElem? (i := 781) (by decide +kernel), List.mem_of_getElem? (i := 1048) (by decide +kernel), List.mem_of_getElem? (i := 1049) (by decide +kernel)⟩
theorem lw_p53 : lw_okq (⟨"BoardSumsModel", "next", "()V"⟩, 38) := ⟨⟨by decide +kernel, by decide +kernel⟩, List.mem_of_getElem? (i := 781) (by decide +kernel), List.mem_of_getElem? (i := 1060) (by decide +kernel), List.mem_of_getElem? (i := 1061) (by decide +kernel)⟩
theorem lw_p54 : lw_okq (⟨"BoardSumsModel", "readBoard", "()V"⟩, 38) := ⟨⟨by decide +kernel, by decide +kernel⟩, List.mem_of_getElem? (i := 781) (by decide +kernel), List.mem_of_getElem? (i := 1074) (by decide +kernel), List.mem_of_getElem? (i := 1075) (by decide +kernel)⟩
theorem lw_p55 : lw_okq (⟨"BoardSumsModel", "isName", "()Z"⟩, 38) := ⟨⟨by decide +kernel, by decide +kernel⟩, List.mem_of_getElem? (i := 781) (by decide +kernel), List.mem_of_getElem? (i := 1078) (by decide +kernel), List.mem_of_getElem? (i := 1079) (by decide +kernel)⟩
theorem lw_p56 : lw_okq (⟨"BoardSumsModel", "must", "(Z)V"⟩, 38) := ⟨⟨by decide +kernel, by decide +kernel⟩, List.mem_of_getElem? (i := 781) (by decide +kernel), List.mem_of_getElem? (i := 1082) (by decide +kernel), List.mem_of_getElem? (i := 1083) (by decide +kernel)⟩
theorem lw_p57 : lw_okq (⟨"BoardSumsModel", "isSign", "(I)Z"⟩, 38) := ⟨⟨by decide +kernel, by decide +kernel⟩, List.mem_of_getElem? (i := 781) (by decide +kernel), List.mem_of_getElem? (i := 1086) (by decide +kernel), List.mem_of_getElem? (i := 1087) (by decide +kernel)⟩
theorem lw_p58 : lw_okq (⟨"BoardSumsModel", "kindAt", "()I"⟩, 38) := ⟨⟨by decide +kernel, by decide +kernel⟩, List.mem_of_getElem? (i := 781) (by decide +kernel), List.mem_of_getElem? (i := 1090) (by decide +kernel), List.mem_of_getElem? (i := 1091) (by decide +kernel)⟩
theorem lw_p59 : lw_okq (⟨"BoardSumsModel", "isWord", "(IIIII)Z"⟩, 38) := ⟨⟨by decide +kernel, by decide +kernel⟩, List.mem_of_getElem? (i := 781) (by decide +kernel), List.mem_of_getElem? (i := 1094) (by decide +kernel), List.mem_of_getElem? (i := 1095) (by decide +kernel)⟩
theorem lw_p60 : lw_okq (⟨"BoardSumsModel", "number", "(JJ)I"⟩, 38) := ⟨⟨by decide +kernel, by decide +kernel⟩, List.mem_of_getElem? (i := 781) (by decide +kernel), List.mem_of_getElem? (i := 1098) (by decide +kernel), List.mem_of_getElem? (i := 1099) (by decide +kernel)⟩
theorem lw_p61 : lw_okq (⟨"BoardSumsModel", "how", "()I"⟩, 38) := ⟨⟨by decide +kernel, by decide +kernel⟩, List.mem_of_getElem? (i := 781) (by decide +kernel), List.mem_of_getElem? (i := 1102) (by decide +kernel), List.mem_of_getElem? (i := 1103) (by decide +kernel)⟩
theorem lw_p62 : lw_okq (⟨"BoardSumsModel", "name", "(II)V"⟩, 38) := ⟨⟨by decide +kernel, by decide +kernel⟩, List.mem_of_getElem? (i := 781) (by decide +kernel), List.mem_of_getElem? (i := 1106) (by decide +kernel), List.mem_of_getElem? (i := 1107) (by decide +kernel)⟩
def lw_privs_4 : List (MethodName × Nat) := [(⟨"BoardSumsModel", "begin", "()V"⟩, 38), (⟨"BoardSumsModel", "take", "(I)V"⟩, 38), (⟨"BoardSumsModel", "taken", "(I)I"⟩, 38), (⟨"BoardSumsModel", "cellOf", "(III)I"⟩, 38), (⟨"BoardSumsModel", "four", "(I)V"⟩, 38), (⟨"BoardSumsModel", "next", "()V"⟩, 38), (⟨"BoardSumsModel", "readBoard", "()V"⟩, 38), (⟨"BoardSumsModel", "isName", "()Z"⟩, 38), (⟨"BoardSumsModel", "must", "(Z)V"⟩, 38), (⟨"BoardSumsModel", "isSign", "(I)Z"⟩, 38), (⟨"BoardSumsModel", "kindAt", "()I"⟩, 38), (⟨"BoardSumsModel", "isWord", "(IIIII)Z"⟩, 38), (⟨"BoardSumsModel", "number", "(JJ)I"⟩, 38), (⟨"BoardSumsModel", "how", "()I"⟩, 38), (⟨"BoardSumsModel", "name", "(II)V"⟩, 38)]
theorem lw_r4 : ∀ q ∈ lw_privs_4, lw_okq q := List.forall_mem_cons.mpr ⟨lw_p48, List.forall_mem_cons.mpr ⟨lw_p49, List.forall_mem_cons.mpr ⟨lw_p50, List.forall_mem_cons.mpr ⟨lw_p51, List.forall_mem_cons.mpr ⟨lw_p52, List.forall_mem_cons.mpr ⟨lw_p53, List.forall_mem_cons.mpr ⟨lw_p54, List.forall_mem_cons.mpr ⟨lw_p55, List.forall_mem_cons.mpr ⟨lw_p56, List.forall_mem_cons.mpr ⟨lw_p57, List.forall_mem_cons.mpr ⟨lw_p58, List.forall_mem_cons.mpr ⟨lw_p59, List.forall_mem_cons.mpr ⟨lw_p60, List.forall_mem_cons.mpr ⟨lw_p61, List.forall_mem_cons.mpr ⟨lw_p62, fun _ h => absurd h List.not_mem_nil⟩⟩⟩⟩⟩⟩⟩⟩⟩⟩⟩⟩⟩⟩⟩
def lw_privs : List (MethodName × Nat) := lw_privs_1 ++ (lw_privs_2 ++ (lw_privs_3 ++ (lw_privs_4)))
def lw_tbl : List Cond := k2_sels lw_privs ++ tables_1
theorem lw_privs_ok : ∀ q ∈ lw_privs, lw_okq q := by
  show ∀ q ∈ lw_privs_1 ++ (lw_privs_2 ++ (lw_privs_3 ++ (lw_privs_4))), lw_okq q
  exact List.forall_mem_append.mpr ⟨lw_r1, List.forall_mem_append.mpr ⟨lw_r2, List.forall_mem_append.mpr ⟨lw_r3, lw_r4⟩⟩⟩
end
section
def RX0 : String := "BoardSums$Grid"
def TX0 : u_T := fun k => match k with
  | 0 => ("BoardSums$Grid", "width", "I", false)
  | 1 => ("BoardSums$Grid", "height", "I", false)
  | _ => ("BoardSums$Grid", "tiles", "I", false)
def tyX0 : Nat → FieldType := fun k => match k with
  | 0 => .int
  | 1 => .int
  | _ => .int
abbrev wsX00 : List Cond := u_ws RX0 TX0 3
theorem nmX0 : ∀ a, a < 3 → ∀ b, b < 3 → a ≠ b → (TX0 a).2.1 ≠ (TX0 b).2.1 := by decide +kernel
theorem tyX0_ok : ∀ k, k < 3 → parseFieldDescriptor (TX0 k).2.2.1 = some (tyX0 k) := by decide +kernel
abbrev cX0_init : ByteArray := prog_2_method_1_code
def yX0_init : MethodName := ⟨RX0, "<init>", "()V"⟩
abbrev cX0_shape : ByteArray := prog_2_method_2_code
def yX0_shape : MethodName := ⟨RX0, "shape", "(II)V"⟩
abbrev cX0_hasCell : ByteArray := prog_2_method_3_code
def yX0_hasCell : MethodName := ⟨RX0, "hasCell", "(II)Z"⟩
abbrev cX0_hasTile : ByteArray := prog_2_method_4_code
def yX0_hasTile : MethodName := ⟨RX0, "hasTile", "(I)Z"⟩
abbrev cX0_leftOf : ByteArray := prog_2_method_5_code
def yX0_leftOf : MethodName := ⟨RX0, "leftOf", "(I)I"⟩
abbrev cX0_rightOf : ByteArray := prog_2_method_6_code
def yX0_rightOf : MethodName := ⟨RX0, "rightOf", "(I)I"⟩
abbrev cX0_bottomOf : ByteArray := prog_2_method_7_code
def yX0_bottomOf : MethodName := ⟨RX0, "bottomOf", "(I)I"⟩
abbrev cX0_topOf : ByteArray := prog_2_method_8_code
def yX0_topOf : MethodName := ⟨RX0, "topOf", "(I)I"⟩
abbrev cX0_around : ByteArray := prog_2_method_9_code
def yX0_around : MethodName := ⟨RX0, "around", "(I)I"⟩
def RX1 : String := "BoardSums$Maker"
def TX1 : u_T := fun k => match k with
  | 0 => ("BoardSums$Maker", "grid", "LBoardSums$Grid;", true)
  | 1 => ("BoardSums$Maker", "sheets", "LBoardSums$Sheets;", true)
  | 2 => ("BoardSums$Maker", "values", "[[I", true)
  | 3 => ("BoardSums$Maker", "tally", "LBoardSums$Tally;", true)
  | 4 => ("BoardSums$Maker", "sides", "[I", true)
  | 5 => ("BoardSums$Maker", "downhill", "[I", true)
  | _ => ("BoardSums$Maker", "isZoned", "[Z", true)
def tyX1 : Nat → FieldType := fun k => match k with
  | 0 => .object "BoardSums$Grid"
  | 1 => .object "BoardSums$Sheets"
  | 2 => .array (.array .int)
  | 3 => .object "BoardSums$Tally"
  | 4 => .array .int
  | 5 => .array .int
  | _ => .array .boolean
abbrev wsX10 : List Cond := u_ws RX1 TX1 7
theorem nmX1 : ∀ a, a < 7 → ∀ b, b < 7 → a ≠ b → (TX1 a).2.1 ≠ (TX1 b).2.1 := by decide +kernel
theorem tyX1_ok : ∀ k, k < 7 → parseFieldDescriptor (TX1 k).2.2.1 = some (tyX1 k) := by decide +kernel
abbrev cX1_init : ByteArray := prog_3_method_1_code
def yX1_init : MethodName := ⟨RX1, "<init>", "(LBoardSums$Grid;LBoardSums$Sheets;[[I)V"⟩
abbrev cX1_makeTile : ByteArray := prog_3_method_2_code
def yX1_makeTile : MethodName := ⟨RX1, "makeTile", "(LBoardSums$Recipe;I[I)V"⟩
abbrev cX1_makeWhole : ByteArray := prog_3_method_3_code
def yX1_makeWhole : MethodName := ⟨RX1, "makeWhole", "(LBoardSums$Recipe;[I)V"⟩
abbrev cX1_single : ByteArray := prog_3_method_4_code
def yX1_single : MethodName := ⟨RX1, "single", "(LBoardSums$Recipe;I)I"⟩
abbrev cX1_ofBoth : ByteArray := prog_3_method_5_code
def yX1_ofBoth : MethodName := ⟨RX1, "ofBoth", "(III)I"⟩
abbrev cX1_near : ByteArray := prog_3_method_6_code
def yX1_near : MethodName := ⟨RX1, "near", "(LBoardSums$Recipe;II)I"⟩
abbrev cX1_zones : ByteArray := prog_3_method_7_code
def yX1_zones : MethodName := ⟨RX1, "zones", "(I[I[I[I)V"⟩
abbrev cX1_tallyZone : ByteArray := prog_3_method_8_code
def yX1_tallyZone : MethodName := ⟨RX1, "tallyZone", "([I[II)V"⟩
abbrev cX1_fillZone : ByteArray := prog_3_method_9_code
def yX1_fillZone : MethodName := ⟨RX1, "fillZone", "(I[II[I)V"⟩
abbrev cX1_ways : ByteArray := prog_3_method_10_code
def yX1_ways : MethodName := ⟨RX1, "ways", "([I[I[I)V"⟩
abbrev cX1_shorten : ByteArray := prog_3_method_11_code
def yX1_shorten : MethodName := ⟨RX1, "shorten", "([I[II)Z"⟩
abbrev cX1_flows : ByteArray := prog_3_method_12_code
def yX1_flows : MethodName := ⟨RX1, "flows", "([I[I)V"⟩
abbrev cX1_lowestSide : ByteArray := prog_3_method_13_code
def yX1_lowestSide : MethodName := ⟨RX1, "lowestSide", "([II)I"⟩
abbrev cX1_runDown : ByteArray := prog_3_method_14_code
def yX1_runDown : MethodName := ⟨RX1, "runDown", "([II)V"⟩
def RX2 : String := "BoardSums$Plan"
def TX2 : u_T := fun k => match k with
  | 0 => ("BoardSums$Plan", "recipes", "[LBoardSums$Recipe;", true)
  | 1 => ("BoardSums$Plan", "boardOf", "[I", true)
  | _ => ("BoardSums$Plan", "length", "I", false)
def tyX2 : Nat → FieldType := fun k => match k with
  | 0 => .array (.object "BoardSums$Recipe")
  | 1 => .array .int
  | _ => .int
abbrev wsX20 : List Cond := u_ws RX2 TX2 3
theorem nmX2 : ∀ a, a < 3 → ∀ b, b < 3 → a ≠ b → (TX2 a).2.1 ≠ (TX2 b).2.1 := by decide +kernel
theorem tyX2_ok : ∀ k, k < 3 → parseFieldDescriptor (TX2 k).2.2.1 = some (tyX2 k) := by decide +kernel
abbrev cX2_init : ByteArray := prog_4_method_1_code
def yX2_init : MethodName := ⟨RX2, "<init>", "()V"⟩
abbrev cX2_clear : ByteArray := prog_4_method_2_code
def yX2_clear : MethodName := ⟨RX2, "clear", "()V"⟩
abbrev cX2_has : ByteArray := prog_4_method_3_code
def yX2_has : MethodName := ⟨RX2, "has", "(I)Z"⟩
abbrev cX2_isFull : ByteArray := prog_4_method_4_code
def yX2_isFull : MethodName := ⟨RX2, "isFull", "()Z"⟩
abbrev cX2_boardNamed : ByteArray := prog_4_method_5_code
def yX2_boardNamed : MethodName := ⟨RX2, "boardNamed", "(I)I"⟩
abbrev cX2_close : ByteArray := prog_4_method_6_code
def yX2_close : MethodName := ⟨RX2, "close", "(I)V"⟩
def RX3 : String := "BoardSums$Reader"
def TX3 : u_T := fun k => match k with
  | 0 => ("BoardSums$Reader", "tokens", "LBoardSums$Tokens;", true)
  | _ => ("BoardSums$Reader", "plan", "LBoardSums$Plan;", false)
def tyX3 : Nat → FieldType := fun k => match k with
  | 0 => .object "BoardSums$Tokens"
  | _ => .object "BoardSums$Plan"
abbrev wsX30 : List Cond := u_ws RX3 TX3 2
theorem nmX3 : ∀ a, a < 2 → ∀ b, b < 2 → a ≠ b → (TX3 a).2.1 ≠ (TX3 b).2.1 := by decide +kernel
theorem tyX3_ok : ∀ k, k < 2 → parseFieldDescriptor (TX3 k).2.2.1 = some (tyX3 k) := by decide +kernel
abbrev cX3_init : ByteArray := prog_5_method_1_code
def yX3_init : MethodName := ⟨RX3, "<init>", "(LBoardSums$Tape;LBoardSums$Plan;)V"⟩
abbrev cX3_read : ByteArray := prog_5_method_2_code
def yX3_read : MethodName := ⟨RX3, "read", "(LBoardSums$Plan;)I"⟩
abbrev cX3_readBoard : ByteArray := prog_5_method_3_code
def yX3_readBoard : MethodName := ⟨RX3, "readBoard", "()Z"⟩
abbrev cX3_readMaking : ByteArray := prog_5_method_4_code
def yX3_readMaking : MethodName := ⟨RX3, "readMaking", "(LBoardSums$Recipe;)Z"⟩
abbrev cX3_readHow : ByteArray := prog_5_method_5_code
def yX3_readHow : MethodName := ⟨RX3, "readHow", "(LBoardSums$Recipe;)Z"⟩
abbrev cX3_readNames : ByteArray := prog_5_method_6_code
def yX3_readNames : MethodName := ⟨RX3, "readNames", "(LBoardSums$Recipe;I)Z"⟩
abbrev cX3_readNumber : ByteArray := prog_5_method_7_code
def yX3_readNumber : MethodName := ⟨RX3, "readNumber", "(LBoardSums$Recipe;II)Z"⟩
abbrev cX3_readSigned : ByteArray := prog_5_method_8_code
def yX3_readSigned : MethodName := ⟨RX3, "readSigned", "(LBoardSums$Recipe;)Z"⟩
def RX4 : String := "BoardSums$Recipe"
def TX4 : u_T := fun k => match k with
  | 0 => ("BoardSums$Recipe", "named", "[I", true)
  | 1 => ("BoardSums$Recipe", "names", "I", false)
  | 2 => ("BoardSums$Recipe", "kind", "I", false)
  | 3 => ("BoardSums$Recipe", "how", "I", false)
  | _ => ("BoardSums$Recipe", "number", "I", false)
def tyX4 : Nat → FieldType := fun k => match k with
  | 0 => .array .int
  | 1 => .int
  | 2 => .int
  | 3 => .int
  | _ => .int
abbrev wsX40 : List Cond := u_ws RX4 TX4 5
theorem nmX4 : ∀ a, a < 5 → ∀ b, b < 5 → a ≠ b → (TX4 a).2.1 ≠ (TX4 b).2.1 := by decide +kernel
theorem tyX4_ok : ∀ k, k < 5 → parseFieldDescriptor (TX4 k).2.2.1 = some (tyX4 k) := by decide +kernel
abbrev cX4_init : ByteArray := prog_6_method_1_code
def yX4_init : MethodName := ⟨RX4, "<init>", "()V"⟩
abbrev cX4_begin : ByteArray := prog_6_method_2_code
def yX4_begin : MethodName := ⟨RX4, "begin", "(I)V"⟩
abbrev cX4_name : ByteArray := prog_6_method_3_code
def yX4_name : MethodName := ⟨RX4, "name", "(I)V"⟩
abbrev cX4_isWhole : ByteArray := prog_6_method_4_code
def yX4_isWhole : MethodName := ⟨RX4, "isWhole", "()Z"⟩
def RX5 : String := "BoardSums$Sheets"
def TX5 : u_T := fun k => match k with
  | 0 => ("BoardSums$Sheets", "cells", "[[I", true)
  | 1 => ("BoardSums$Sheets", "images", "[[I", true)
  | _ => ("BoardSums$Sheets", "isKept", "[Z", true)
def tyX5 : Nat → FieldType := fun k => match k with
  | 0 => .array (.array .int)
  | 1 => .array (.array .int)
  | _ => .array .boolean
abbrev wsX50 : List Cond := u_ws RX5 TX5 3
theorem nmX5 : ∀ a, a < 3 → ∀ b, b < 3 → a ≠ b → (TX5 a).2.1 ≠ (TX5 b).2.1 := by decide +kernel
theorem tyX5_ok : ∀ k, k < 3 → parseFieldDescriptor (TX5 k).2.2.1 = some (tyX5 k) := by decide +kernel
abbrev cX5_init : ByteArray := prog_7_method_1_code
def yX5_init : MethodName := ⟨RX5, "<init>", "()V"⟩
abbrev cX5_empty : ByteArray := prog_7_method_2_code
def yX5_empty : MethodName := ⟨RX5, "empty", "()V"⟩
abbrev cX5_keep : ByteArray := prog_7_method_3_code
def yX5_keep : MethodName := ⟨RX5, "keep", "(I)V"⟩
def RX6 : String := "BoardSums$Tally"
def TX6 : u_T := fun k => match k with
  | 0 => ("BoardSums$Tally", "sum", "J", false)
  | 1 => ("BoardSums$Tally", "greatest", "I", false)
  | 2 => ("BoardSums$Tally", "smallest", "I", false)
  | _ => ("BoardSums$Tally", "number", "I", false)
def tyX6 : Nat → FieldType := fun k => match k with
  | 0 => .long
  | 1 => .int
  | 2 => .int
  | _ => .int
abbrev wsX60 : List Cond := u_ws RX6 TX6 4
theorem nmX6 : ∀ a, a < 4 → ∀ b, b < 4 → a ≠ b → (TX6 a).2.1 ≠ (TX6 b).2.1 := by decide +kernel
theorem tyX6_ok : ∀ k, k < 4 → parseFieldDescriptor (TX6 k).2.2.1 = some (tyX6 k) := by decide +kernel
abbrev cX6_init : ByteArray := prog_8_method_1_code
def yX6_init : MethodName := ⟨RX6, "<init>", "()V"⟩
abbrev cX6_clear : ByteArray := prog_8_method_2_code
def yX6_clear : MethodName := ⟨RX6, "clear", "()V"⟩
abbrev cX6_take : ByteArray := prog_8_method_3_code
def yX6_take : MethodName := ⟨RX6, "take", "(I)V"⟩
abbrev cX6_answer : ByteArray := prog_8_method_4_code
def yX6_answer : MethodName := ⟨RX6, "answer", "(I)I"⟩
def RX7 : String := "BoardSums$Tape"
def TX7 : u_T := fun k => match k with
  | 0 => ("BoardSums$Tape", "bytes", "[C", true)
  | _ => ("BoardSums$Tape", "length", "I", false)
def tyX7 : Nat → FieldType := fun k => match k with
  | 0 => .array .char
  | _ => .int
abbrev wsX70 : List Cond := u_ws RX7 TX7 2
theorem nmX7 : ∀ a, a < 2 → ∀ b, b < 2 → a ≠ b → (TX7 a).2.1 ≠ (TX7 b).2.1 := by decide +kernel
theorem tyX7_ok : ∀ k, k < 2 → parseFieldDescriptor (TX7 k).2.2.1 = some (tyX7 k) := by decide +kernel
abbrev cX7_init : ByteArray := prog_9_method_1_code
def yX7_init : MethodName := ⟨RX7, "<init>", "()V"⟩
abbrev cX7_hasRoom : ByteArray := prog_9_method_2_code
def yX7_hasRoom : MethodName := ⟨RX7, "hasRoom", "(I)Z"⟩
abbrev cX7_append : ByteArray := prog_9_method_3_code
def yX7_append : MethodName := ⟨RX7, "append", "(I)V"⟩
abbrev cX7_byteAt : ByteArray := prog_9_method_4_code
def yX7_byteAt : MethodName := ⟨RX7, "byteAt", "(I)C"⟩
abbrev cX7_isLetter : ByteArray := prog_9_method_5_code
def yX7_isLetter : MethodName := ⟨RX7, "isLetter", "(I)Z"⟩
abbrev cX7_isDigit : ByteArray := prog_9_method_6_code
def yX7_isDigit : MethodName := ⟨RX7, "isDigit", "(I)Z"⟩
def RX8 : String := "BoardSums$Tokens"
def TX8 : u_T := fun k => match k with
  | 0 => ("BoardSums$Tokens", "tape", "LBoardSums$Tape;", true)
  | 1 => ("BoardSums$Tokens", "kinds", "[I", true)
  | 2 => ("BoardSums$Tokens", "codes", "[I", true)
  | 3 => ("BoardSums$Tokens", "places", "[I", true)
  | 4 => ("BoardSums$Tokens", "length", "I", false)
  | _ => ("BoardSums$Tokens", "next", "I", false)
def tyX8 : Nat → FieldType := fun k => match k with
  | 0 => .object "BoardSums$Tape"
  | 1 => .array .int
  | 2 => .array .int
  | 3 => .array .int
  | 4 => .int
  | _ => .int
abbrev wsX80 : List Cond := u_ws RX8 TX8 6
theorem nmX8 : ∀ a, a < 6 → ∀ b, b < 6 → a ≠ b → (TX8 a).2.1 ≠ (TX8 b).2.1 := by decide +kernel
theorem tyX8_ok : ∀ k, k < 6 → parseFieldDescriptor (TX8 k).2.2.1 = some (tyX8 k) := by decide +kernel
abbrev cX8_init : ByteArray := prog_10_method_1_code
def yX8_init : MethodName := ⟨RX8, "<init>", "(LBoardSums$Tape;)V"⟩
abbrev cX8_cut : ByteArray := prog_10_method_2_code
def yX8_cut : MethodName := ⟨RX8, "cut", "()V"⟩
abbrev cX8_isStart : ByteArray := prog_10_method_3_code
def yX8_isStart : MethodName := ⟨RX8, "isStart", "(I)Z"⟩
abbrev cX8_holdAt : ByteArray := prog_10_method_4_code
def yX8_holdAt : MethodName := ⟨RX8, "holdAt", "(I)V"⟩
abbrev cX8_hold : ByteArray := prog_10_method_5_code
def yX8_hold : MethodName := ⟨RX8, "hold", "(III)V"⟩
abbrev cX8_holdLetters : ByteArray := prog_10_method_6_code
def yX8_holdLetters : MethodName := ⟨RX8, "holdLetters", "(I)V"⟩
abbrev cX8_holdDigits : ByteArray := prog_10_method_7_code
def yX8_holdDigits : MethodName := ⟨RX8, "holdDigits", "(I)V"⟩
abbrev cX8_isSpelled : ByteArray := prog_10_method_8_code
def yX8_isSpelled : MethodName := ⟨RX8, "isSpelled", "(Ljava/lang/String;II)Z"⟩
abbrev cX8_spelling : ByteArray := prog_10_method_9_code
def yX8_spelling : MethodName := ⟨RX8, "spelling", "(I)Ljava/lang/String;"⟩
abbrev cX8_place : ByteArray := prog_10_method_10_code
def yX8_place : MethodName := ⟨RX8, "place", "()I"⟩
abbrev cX8_isEnd : ByteArray := prog_10_method_11_code
def yX8_isEnd : MethodName := ⟨RX8, "isEnd", "()Z"⟩
abbrev cX8_look : ByteArray := prog_10_method_12_code
def yX8_look : MethodName := ⟨RX8, "look", "(I)I"⟩
abbrev cX8_step : ByteArray := prog_10_method_13_code
def yX8_step : MethodName := ⟨RX8, "step", "()V"⟩
abbrev cX8_pass : ByteArray := prog_10_method_14_code
def yX8_pass : MethodName := ⟨RX8, "pass", "(C)Z"⟩
def RX9 : String := "BoardSums$Works"
def TX9 : u_T := fun k => match k with
  | 0 => ("BoardSums$Works", "grid", "LBoardSums$Grid;", true)
  | 1 => ("BoardSums$Works", "maker", "LBoardSums$Maker;", true)
  | 2 => ("BoardSums$Works", "freshTiles", "[I", true)
  | 3 => ("BoardSums$Works", "reached", "[I", true)
  | 4 => ("BoardSums$Works", "values", "[[I", true)
  | 5 => ("BoardSums$Works", "plan", "LBoardSums$Plan;", false)
  | _ => ("BoardSums$Works", "makings", "I", false)
def tyX9 : Nat → FieldType := fun k => match k with
  | 0 => .object "BoardSums$Grid"
  | 1 => .object "BoardSums$Maker"
  | 2 => .array .int
  | 3 => .array .int
  | 4 => .array (.array .int)
  | 5 => .object "BoardSums$Plan"
  | _ => .int
abbrev wsX90 : List Cond := u_ws RX9 TX9 7
theorem nmX9 : ∀ a, a < 7 → ∀ b, b < 7 → a ≠ b → (TX9 a).2.1 ≠ (TX9 b).2.1 := by decide +kernel
theorem tyX9_ok : ∀ k, k < 7 → parseFieldDescriptor (TX9 k).2.2.1 = some (tyX9 k) := by decide +kernel
abbrev cX9_init : ByteArray := prog_11_method_1_code
def yX9_init : MethodName := ⟨RX9, "<init>", "(LBoardSums$Grid;LBoardSums$Sheets;LBoardSums$Plan;)V"⟩
abbrev cX9_follow : ByteArray := prog_11_method_2_code
def yX9_follow : MethodName := ⟨RX9, "follow", "(LBoardSums$Plan;)V"⟩
abbrev cX9_empty : ByteArray := prog_11_method_3_code
def yX9_empty : MethodName := ⟨RX9, "empty", "()V"⟩
abbrev cX9_isFresh : ByteArray := prog_11_method_4_code
def yX9_isFresh : MethodName := ⟨RX9, "isFresh", "(II)Z"⟩
abbrev cX9_freshInAll : ByteArray := prog_11_method_5_code
def yX9_freshInAll : MethodName := ⟨RX9, "freshInAll", "()I"⟩
abbrev cX9_ask : ByteArray := prog_11_method_6_code
def yX9_ask : MethodName := ⟨RX9, "ask", "(II)V"⟩
abbrev cX9_sources : ByteArray := prog_11_method_7_code
def yX9_sources : MethodName := ⟨RX9, "sources", "(III)I"⟩
abbrev cX9_lose : ByteArray := prog_11_method_8_code
def yX9_lose : MethodName := ⟨RX9, "lose", "(II)V"⟩
abbrev cX9_tilesFrom : ByteArray := prog_11_method_9_code
def yX9_tilesFrom : MethodName := ⟨RX9, "tilesFrom", "(LBoardSums$Recipe;II)I"⟩
abbrev cX9_reachNeeded : ByteArray := prog_11_method_10_code
def yX9_reachNeeded : MethodName := ⟨RX9, "reachNeeded", "(II)V"⟩
abbrev cX9_across : ByteArray := prog_11_method_11_code
def yX9_across : MethodName := ⟨RX9, "across", "(LBoardSums$Recipe;I)I"⟩
abbrev cX9_makeTiles : ByteArray := prog_11_method_12_code
def yX9_makeTiles : MethodName := ⟨RX9, "makeTiles", "(II)V"⟩
def RX10 : String := "BoardSums"
def TX10 : u_T := fun k => match k with
  | 0 => ("BoardSums", "grid", "LBoardSums$Grid;", true)
  | 1 => ("BoardSums", "sheets", "LBoardSums$Sheets;", true)
  | 2 => ("BoardSums", "tape", "LBoardSums$Tape;", true)
  | 3 => ("BoardSums", "reader", "LBoardSums$Reader;", true)
  | 4 => ("BoardSums", "works", "LBoardSums$Works;", true)
  | 5 => ("BoardSums", "plan", "LBoardSums$Plan;", false)
  | 6 => ("BoardSums", "draft", "LBoardSums$Plan;", false)
  | 7 => ("BoardSums", "faultPlace", "I", false)
  | _ => ("BoardSums", "refusal", "I", false)
def tyX10 : Nat → FieldType := fun k => match k with
  | 0 => .object "BoardSums$Grid"
  | 1 => .object "BoardSums$Sheets"
  | 2 => .object "BoardSums$Tape"
  | 3 => .object "BoardSums$Reader"
  | 4 => .object "BoardSums$Works"
  | 5 => .object "BoardSums$Plan"
  | 6 => .object "BoardSums$Plan"
  | 7 => .int
  | _ => .int
abbrev wsX100 : List Cond := u_ws RX10 TX10 9
theorem nmX10 : ∀ a, a < 9 → ∀ b, b < 9 → a ≠ b → (TX10 a).2.1 ≠ (TX10 b).2.1 := by decide +kernel
theorem tyX10_ok : ∀ k, k < 9 → parseFieldDescriptor (TX10 k).2.2.1 = some (tyX10 k) := by decide +kernel
abbrev cX10_init : ByteArray := prog_1_method_1_code
def yX10_init : MethodName := ⟨RX10, "<init>", "()V"⟩
abbrev cX10_size : ByteArray := prog_1_method_2_code
def yX10_size : MethodName := ⟨RX10, "size", "(II)I"⟩
abbrev cX10_tell : ByteArray := prog_1_method_3_code
def yX10_tell : MethodName := ⟨RX10, "tell", "(IIII)I"⟩
abbrev cX10_told : ByteArray := prog_1_method_4_code
def yX10_told : MethodName := ⟨RX10, "told", "(III)I"⟩
abbrev cX10_feed : ByteArray := prog_1_method_5_code
def yX10_feed : MethodName := ⟨RX10, "feed", "(IIIII)I"⟩
abbrev cX10_end : ByteArray := prog_1_method_6_code
def yX10_end : MethodName := ⟨RX10, "end", "(I)I"⟩
abbrev cX10_boards : ByteArray := prog_1_method_7_code
def yX10_boards : MethodName := ⟨RX10, "boards", "()I"⟩
abbrev cX10_fault : ByteArray := prog_1_method_8_code
def yX10_fault : MethodName := ⟨RX10, "fault", "()I"⟩
abbrev cX10_cell : ByteArray := prog_1_method_9_code
def yX10_cell : MethodName := ⟨RX10, "cell", "(III)I"⟩
abbrev cX10_fresh : ByteArray := prog_1_method_10_code
def yX10_fresh : MethodName := ⟨RX10, "fresh", "(II)I"⟩
abbrev cX10_from : ByteArray := prog_1_method_11_code
def yX10_from : MethodName := ⟨RX10, "from", "(III)I"⟩
abbrev cX10_made : ByteArray := prog_1_method_12_code
def yX10_made : MethodName := ⟨RX10, "made", "()I"⟩
abbrev cX10_image : ByteArray := prog_1_method_13_code
def yX10_image : MethodName := ⟨RX10, "image", "(I)I"⟩
abbrev cX10_back : ByteArray := prog_1_method_14_code
def yX10_back : MethodName := ⟨RX10, "back", "(I)I"⟩
abbrev cX10_count : ByteArray := prog_1_method_15_code
def yX10_count : MethodName := ⟨RX10, "count", "(I)I"⟩
abbrev cX10_status : ByteArray := prog_1_method_16_code
def yX10_status : MethodName := ⟨RX10, "status", "()I"⟩
abbrev cX10_refuse : ByteArray := prog_1_method_17_code
def yX10_refuse : MethodName := ⟨RX10, "refuse", "(I)I"⟩
abbrev cX10_accept : ByteArray := prog_1_method_18_code
def yX10_accept : MethodName := ⟨RX10, "accept", "(I)I"⟩
abbrev cX10_put : ByteArray := prog_1_method_19_code
def yX10_put : MethodName := ⟨RX10, "put", "(III)V"⟩
abbrev cX10_bringBack : ByteArray := prog_1_method_20_code
def yX10_bringBack : MethodName := ⟨RX10, "bringBack", "(II)I"⟩
abbrev cX10_isSide : ByteArray := prog_1_method_21_code
def yX10_isSide : MethodName := ⟨RX10, "isSide", "(I)Z"⟩
abbrev cX10_isSheet : ByteArray := prog_1_method_22_code
def yX10_isSheet : MethodName := ⟨RX10, "isSheet", "(I)Z"⟩
abbrev cX10_isImage : ByteArray := prog_1_method_23_code
def yX10_isImage : MethodName := ⟨RX10, "isImage", "(I)Z"⟩
abbrev cX10_isTellable : ByteArray := prog_1_method_24_code
def yX10_isTellable : MethodName := ⟨RX10, "isTellable", "(I)Z"⟩
abbrev cX10_placeOf : ByteArray := prog_1_method_25_code
def yX10_placeOf : MethodName := ⟨RX10, "placeOf", "(II)I"⟩
abbrev cX10_tileOf : ByteArray := prog_1_method_26_code
def yX10_tileOf : MethodName := ⟨RX10, "tileOf", "(II)I"⟩
abbrev cX10_orGap : ByteArray := prog_1_method_27_code
def yX10_orGap : MethodName := ⟨RX10, "orGap", "(J)I"⟩
def RX11 : String := "BoardSumsModel"
def TX11 : u_T := fun k => match k with
  | 0 => ("BoardSumsModel", "thrown", "I", false)
  | 1 => ("BoardSumsModel", "status", "I", false)
  | 2 => ("BoardSumsModel", "wide", "I", false)
  | 3 => ("BoardSumsModel", "high", "I", false)
  | 4 => ("BoardSumsModel", "sheets", "[I", true)
  | 5 => ("BoardSumsModel", "images", "[I", true)
  | 6 => ("BoardSumsModel", "isKept", "[Z", true)
  | 7 => ("BoardSumsModel", "boards", "I", false)
  | 8 => ("BoardSumsModel", "kinds", "[I", true)
  | 9 => ("BoardSumsModel", "hows", "[I", true)
  | 10 => ("BoardSumsModel", "numbers", "[I", true)
  | 11 => ("BoardSumsModel", "ofs", "[I", true)
  | 12 => ("BoardSumsModel", "manyOf", "[I", true)
  | 13 => ("BoardSumsModel", "isFresh", "[Z", true)
  | 14 => ("BoardSumsModel", "made", "I", false)
  | 15 => ("BoardSumsModel", "needs", "[I", true)
  | 16 => ("BoardSumsModel", "values", "[I", true)
  | 17 => ("BoardSumsModel", "got", "I", false)
  | 18 => ("BoardSumsModel", "sum", "J", false)
  | 19 => ("BoardSumsModel", "least", "J", false)
  | 20 => ("BoardSumsModel", "most", "J", false)
  | 21 => ("BoardSumsModel", "far", "[J", true)
  | 22 => ("BoardSumsModel", "flows", "[I", true)
  | 23 => ("BoardSumsModel", "nBoards", "I", false)
  | 24 => ("BoardSumsModel", "nKind", "[I", true)
  | 25 => ("BoardSumsModel", "nHow", "[I", true)
  | 26 => ("BoardSumsModel", "nNumber", "[I", true)
  | 27 => ("BoardSumsModel", "nOf", "[I", true)
  | 28 => ("BoardSumsModel", "nMany", "[I", true)
  | 29 => ("BoardSumsModel", "named", "[I", true)
  | 30 => ("BoardSumsModel", "tape", "[I", true)
  | 31 => ("BoardSumsModel", "taped", "I", false)
  | 32 => ("BoardSumsModel", "start", "I", false)
  | 33 => ("BoardSumsModel", "to", "I", false)
  | 34 => ("BoardSumsModel", "sort", "I", false)
  | 35 => ("BoardSumsModel", "worth", "J", false)
  | 36 => ("BoardSumsModel", "fault", "I", false)
  | _ => ("BoardSumsModel", "bad", "Z", false)
def tyX11 : Nat → FieldType := fun k => match k with
  | 0 => .int
  | 1 => .int
  | 2 => .int
  | 3 => .int
  | 4 => .array .int
  | 5 => .array .int
  | 6 => .array .boolean
  | 7 => .int
  | 8 => .array .int
  | 9 => .array .int
  | 10 => .array .int
  | 11 => .array .int
  | 12 => .array .int
  | 13 => .array .boolean
  | 14 => .int
  | 15 => .array .int
  | 16 => .array .int
  | 17 => .int
  | 18 => .long
  | 19 => .long
  | 20 => .long
  | 21 => .array .long
  | 22 => .array .int
  | 23 => .int
  | 24 => .array .int
  | 25 => .array .int
  | 26 => .array .int
  | 27 => .array .int
  | 28 => .array .int
  | 29 => .array .int
  | 30 => .array .int
  | 31 => .int
  | 32 => .int
  | 33 => .int
  | 34 => .int
  | 35 => .long
  | 36 => .int
  | _ => .boolean
abbrev wsX110 : List Cond := u_ws RX11 TX11 38
theorem nmX11 : ∀ a, a < 38 → ∀ b, b < 38 → a ≠ b → (TX11 a).2.1 ≠ (TX11 b).2.1 := by decide +kernel
theorem tyX11_ok : ∀ k, k < 38 → parseFieldDescriptor (TX11 k).2.2.1 = some (tyX11 k) := by decide +kernel
abbrev cX11_init : ByteArray := prog_13_method_1_code
def yX11_init : MethodName := ⟨RX11, "<init>", "()V"⟩
abbrev cX11_in : ByteArray := prog_13_method_3_code
def yX11_in : MethodName := ⟨RX11, "in", "(JJJ)Z"⟩
abbrev cX11_answer : ByteArray := prog_13_method_4_code
def yX11_answer : MethodName := ⟨RX11, "answer", "(I)I"⟩
abbrev cX11_clearSheets : ByteArray := prog_13_method_5_code
def yX11_clearSheets : MethodName := ⟨RX11, "clearSheets", "()V"⟩
abbrev cX11_isCell : ByteArray := prog_13_method_6_code
def yX11_isCell : MethodName := ⟨RX11, "isCell", "(II)Z"⟩
abbrev cX11_size : ByteArray := prog_13_method_7_code
def yX11_size : MethodName := ⟨RX11, "size", "(II)I"⟩
abbrev cX11_tell : ByteArray := prog_13_method_8_code
def yX11_tell : MethodName := ⟨RX11, "tell", "(IIII)I"⟩
abbrev cX11_tileOf : ByteArray := prog_13_method_9_code
def yX11_tileOf : MethodName := ⟨RX11, "tileOf", "(II)I"⟩
abbrev cX11_put : ByteArray := prog_13_method_10_code
def yX11_put : MethodName := ⟨RX11, "put", "(IIII)V"⟩
abbrev cX11_told : ByteArray := prog_13_method_11_code
def yX11_told : MethodName := ⟨RX11, "told", "(III)I"⟩
abbrev cX11_staleAll : ByteArray := prog_13_method_12_code
def yX11_staleAll : MethodName := ⟨RX11, "staleAll", "()V"⟩
abbrev cX11_isTile : ByteArray := prog_13_method_13_code
def yX11_isTile : MethodName := ⟨RX11, "isTile", "(I)Z"⟩
abbrev cX11_allTiles : ByteArray := prog_13_method_14_code
def yX11_allTiles : MethodName := ⟨RX11, "allTiles", "()I"⟩
abbrev cX11_needOf : ByteArray := prog_13_method_15_code
def yX11_needOf : MethodName := ⟨RX11, "needOf", "(II)I"⟩
abbrev cX11_findNeeds : ByteArray := prog_13_method_16_code
def yX11_findNeeds : MethodName := ⟨RX11, "findNeeds", "(II)V"⟩
abbrev cX11_fromOf : ByteArray := prog_13_method_17_code
def yX11_fromOf : MethodName := ⟨RX11, "fromOf", "(III)I"⟩
abbrev cX11_from : ByteArray := prog_13_method_18_code
def yX11_from : MethodName := ⟨RX11, "from", "(III)I"⟩
abbrev cX11_isBoard : ByteArray := prog_13_method_19_code
def yX11_isBoard : MethodName := ⟨RX11, "isBoard", "(I)Z"⟩
abbrev cX11_fresh : ByteArray := prog_13_method_20_code
def yX11_fresh : MethodName := ⟨RX11, "fresh", "(II)I"⟩
abbrev cX11_made : ByteArray := prog_13_method_21_code
def yX11_made : MethodName := ⟨RX11, "made", "()I"⟩
abbrev cX11_begin : ByteArray := prog_13_method_22_code
def yX11_begin : MethodName := ⟨RX11, "begin", "()V"⟩
abbrev cX11_take : ByteArray := prog_13_method_23_code
def yX11_take : MethodName := ⟨RX11, "take", "(I)V"⟩
abbrev cX11_kept : ByteArray := prog_13_method_24_code
def yX11_kept : MethodName := ⟨RX11, "kept", "(J)I"⟩
abbrev cX11_taken : ByteArray := prog_13_method_25_code
def yX11_taken : MethodName := ⟨RX11, "taken", "(I)I"⟩
abbrev cX11_at : ByteArray := prog_13_method_26_code
def yX11_at : MethodName := ⟨RX11, "at", "(III)I"⟩
abbrev cX11_set : ByteArray := prog_13_method_27_code
def yX11_set : MethodName := ⟨RX11, "set", "(IIII)V"⟩
abbrev cX11_cellOf : ByteArray := prog_13_method_28_code
def yX11_cellOf : MethodName := ⟨RX11, "cellOf", "(III)I"⟩
abbrev cX11_workOut : ByteArray := prog_13_method_29_code
def yX11_workOut : MethodName := ⟨RX11, "workOut", "(I)V"⟩
abbrev cX11_valueOf : ByteArray := prog_13_method_30_code
def yX11_valueOf : MethodName := ⟨RX11, "valueOf", "(III)I"⟩
abbrev cX11_stepX : ByteArray := prog_13_method_31_code
def yX11_stepX : MethodName := ⟨RX11, "stepX", "(I)I"⟩
abbrev cX11_stepY : ByteArray := prog_13_method_32_code
def yX11_stepY : MethodName := ⟨RX11, "stepY", "(I)I"⟩
abbrev cX11_workWay : ByteArray := prog_13_method_33_code
def yX11_workWay : MethodName := ⟨RX11, "workWay", "(I)V"⟩
abbrev cX11_flowOf : ByteArray := prog_13_method_34_code
def yX11_flowOf : MethodName := ⟨RX11, "flowOf", "(III)I"⟩
abbrev cX11_workFlow : ByteArray := prog_13_method_35_code
def yX11_workFlow : MethodName := ⟨RX11, "workFlow", "(I)V"⟩
abbrev cX11_cell : ByteArray := prog_13_method_36_code
def yX11_cell : MethodName := ⟨RX11, "cell", "(III)I"⟩
abbrev cX11_four : ByteArray := prog_13_method_37_code
def yX11_four : MethodName := ⟨RX11, "four", "(I)V"⟩
abbrev cX11_feed : ByteArray := prog_13_method_38_code
def yX11_feed : MethodName := ⟨RX11, "feed", "(IIIII)I"⟩
abbrev cX11_end : ByteArray := prog_13_method_39_code
def yX11_end : MethodName := ⟨RX11, "end", "(I)I"⟩
abbrev cX11_isSmall : ByteArray := prog_13_method_40_code
def yX11_isSmall : MethodName := ⟨RX11, "isSmall", "(I)Z"⟩
abbrev cX11_isDigit : ByteArray := prog_13_method_41_code
def yX11_isDigit : MethodName := ⟨RX11, "isDigit", "(I)Z"⟩
abbrev cX11_next : ByteArray := prog_13_method_42_code
def yX11_next : MethodName := ⟨RX11, "next", "()V"⟩
abbrev cX11_isWord : ByteArray := prog_13_method_43_code
def yX11_isWord : MethodName := ⟨RX11, "isWord", "(IIIII)Z"⟩
abbrev cX11_isSign : ByteArray := prog_13_method_44_code
def yX11_isSign : MethodName := ⟨RX11, "isSign", "(I)Z"⟩
abbrev cX11_must : ByteArray := prog_13_method_45_code
def yX11_must : MethodName := ⟨RX11, "must", "(Z)V"⟩
abbrev cX11_number : ByteArray := prog_13_method_46_code
def yX11_number : MethodName := ⟨RX11, "number", "(JJ)I"⟩
abbrev cX11_isName : ByteArray := prog_13_method_47_code
def yX11_isName : MethodName := ⟨RX11, "isName", "()Z"⟩
abbrev cX11_name : ByteArray := prog_13_method_48_code
def yX11_name : MethodName := ⟨RX11, "name", "(II)V"⟩
abbrev cX11_kindAt : ByteArray := prog_13_method_49_code
def yX11_kindAt : MethodName := ⟨RX11, "kindAt", "()I"⟩
abbrev cX11_how : ByteArray := prog_13_method_50_code
def yX11_how : MethodName := ⟨RX11, "how", "()I"⟩
abbrev cX11_readBoard : ByteArray := prog_13_method_51_code
def yX11_readBoard : MethodName := ⟨RX11, "readBoard", "()V"⟩
abbrev cX11_boards : ByteArray := prog_13_method_52_code
def yX11_boards : MethodName := ⟨RX11, "boards", "()I"⟩
abbrev cX11_fault : ByteArray := prog_13_method_53_code
def yX11_fault : MethodName := ⟨RX11, "fault", "()I"⟩
abbrev cX11_image : ByteArray := prog_13_method_54_code
def yX11_image : MethodName := ⟨RX11, "image", "(I)I"⟩
abbrev cX11_back : ByteArray := prog_13_method_55_code
def yX11_back : MethodName := ⟨RX11, "back", "(I)I"⟩
abbrev cX11_count : ByteArray := prog_13_method_56_code
def yX11_count : MethodName := ⟨RX11, "count", "(I)I"⟩
abbrev cX11_status : ByteArray := prog_13_method_57_code
def yX11_status : MethodName := ⟨RX11, "status", "()I"⟩
def RJ6 : String := "java/lang/Integer"
def TJ6 : u_T := fun k => match k with
  | _ => ("", "", "", false)
def tyJ6 : Nat → FieldType := fun k => match k with
  | _ => .int
abbrev wsJ60 : List Cond := u_ws RJ6 TJ6 0
theorem nmJ6 : ∀ a, a < 0 → ∀ b, b < 0 → a ≠ b → (TJ6 a).2.1 ≠ (TJ6 b).2.1 := by decide +kernel
theorem tyJ6_ok : ∀ k, k < 0 → parseFieldDescriptor (TJ6 k).2.2.1 = some (tyJ6 k) := by decide +kernel
abbrev cJ6_bitCount_0f7a4 : ByteArray := prog_14_method_49_code
def yJ6_bitCount_0f7a4 : MethodName := ⟨RJ6, "bitCount", "(I)I"⟩
def RJ9 : String := "java/lang/Math"
def TJ9 : u_T := fun k => match k with
  | _ => ("", "", "", false)
def tyJ9 : Nat → FieldType := fun k => match k with
  | _ => .int
abbrev wsJ90 : List Cond := u_ws RJ9 TJ9 0
theorem nmJ9 : ∀ a, a < 0 → ∀ b, b < 0 → a ≠ b → (TJ9 a).2.1 ≠ (TJ9 b).2.1 := by decide +kernel
theorem tyJ9_ok : ∀ k, k < 0 → parseFieldDescriptor (TJ9 k).2.2.1 = some (tyJ9 k) := by decide +kernel
abbrev cJ9_max_7cf53 : ByteArray := prog_15_method_65_code
def yJ9_max_7cf53 : MethodName := ⟨RJ9, "max", "(II)I"⟩
abbrev cJ9_min_7cf53 : ByteArray := prog_15_method_69_code
def yJ9_min_7cf53 : MethodName := ⟨RJ9, "min", "(II)I"⟩
def RJ0 : String := "java/lang/String"
def TJ0 : u_T := fun k => match k with
  | _ => ("", "", "", false)
def tyJ0 : Nat → FieldType := fun k => match k with
  | _ => .int
abbrev wsJ00 : List Cond := u_ws RJ0 TJ0 0
theorem nmJ0 : ∀ a, a < 0 → ∀ b, b < 0 → a ≠ b → (TJ0 a).2.1 ≠ (TJ0 b).2.1 := by decide +kernel
theorem tyJ0_ok : ∀ k, k < 0 → parseFieldDescriptor (TJ0 k).2.2.1 = some (tyJ0 k) := by decide +kernel
abbrev cJ0_length_8abf5 : ByteArray := prog_16_method_54_code
def yJ0_length_8abf5 : MethodName := ⟨RJ0, "length", "()I"⟩
abbrev cJ0_charAt_5068e : ByteArray := prog_16_method_56_code
def yJ0_charAt_5068e : MethodName := ⟨RJ0, "charAt", "(I)C"⟩
abbrev cJ0_coder_7d493 : ByteArray := prog_16_method_152_code
def yJ0_coder_7d493 : MethodName := ⟨RJ0, "coder", "()B"⟩
abbrev cJ0_isLatin1_aae02 : ByteArray := prog_16_method_154_code
def yJ0_isLatin1_aae02 : MethodName := ⟨RJ0, "isLatin1", "()Z"⟩
abbrev cJ0_checkIndex_df160 : ByteArray := prog_16_method_155_code
def yJ0_checkIndex_df160 : MethodName := ⟨RJ0, "checkIndex", "(II)V"⟩
def RJ1 : String := "java/lang/StringLatin1"
def TJ1 : u_T := fun k => match k with
  | _ => ("", "", "", false)
def tyJ1 : Nat → FieldType := fun k => match k with
  | _ => .int
abbrev wsJ10 : List Cond := u_ws RJ1 TJ1 0
theorem nmJ1 : ∀ a, a < 0 → ∀ b, b < 0 → a ≠ b → (TJ1 a).2.1 ≠ (TJ1 b).2.1 := by decide +kernel
theorem tyJ1_ok : ∀ k, k < 0 → parseFieldDescriptor (TJ1 k).2.2.1 = some (tyJ1 k) := by decide +kernel
abbrev cJ1_charAt_3b067 : ByteArray := prog_17_method_2_code
def yJ1_charAt_3b067 : MethodName := ⟨RJ1, "charAt", "([BI)C"⟩
def RJ2 : String := "java/lang/StringUTF16"
def TJ2 : u_T := fun k => match k with
  | _ => ("", "", "", false)
def tyJ2 : Nat → FieldType := fun k => match k with
  | _ => .int
abbrev wsJ20 : List Cond := u_ws RJ2 TJ2 0
theorem nmJ2 : ∀ a, a < 0 → ∀ b, b < 0 → a ≠ b → (TJ2 a).2.1 ≠ (TJ2 b).2.1 := by decide +kernel
theorem tyJ2_ok : ∀ k, k < 0 → parseFieldDescriptor (TJ2 k).2.2.1 = some (tyJ2 k) := by decide +kernel
abbrev cJ2_getChar_3b067 : ByteArray := prog_18_method_5_code
def yJ2_getChar_3b067 : MethodName := ⟨RJ2, "getChar", "([BI)C"⟩
abbrev cJ2_length_9d52b : ByteArray := prog_18_method_6_code
def yJ2_length_9d52b : MethodName := ⟨RJ2, "length", "([B)I"⟩
abbrev cJ2_charAt_3b067 : ByteArray := prog_18_method_83_code
def yJ2_charAt_3b067 : MethodName := ⟨RJ2, "charAt", "([BI)C"⟩
abbrev cJ2_checkIndex_2214a : ByteArray := prog_18_method_91_code
def yJ2_checkIndex_2214a : MethodName := ⟨RJ2, "checkIndex", "(I[B)V"⟩
def RJ10 : String := "java/lang/System"
def TJ10 : u_T := fun k => match k with
  | _ => ("", "", "", false)
def tyJ10 : Nat → FieldType := fun k => match k with
  | _ => .int
abbrev wsJ100 : List Cond := u_ws RJ10 TJ10 0
theorem nmJ10 : ∀ a, a < 0 → ∀ b, b < 0 → a ≠ b → (TJ10 a).2.1 ≠ (TJ10 b).2.1 := by decide +kernel
theorem tyJ10_ok : ∀ k, k < 0 → parseFieldDescriptor (TJ10 k).2.2.1 = some (tyJ10 k) := by decide +kernel
def RJ7 : String := "java/util/Arrays"
def TJ7 : u_T := fun k => match k with
  | _ => ("", "", "", false)
def tyJ7 : Nat → FieldType := fun k => match k with
  | _ => .int
abbrev wsJ70 : List Cond := u_ws RJ7 TJ7 0
theorem nmJ7 : ∀ a, a < 0 → ∀ b, b < 0 → a ≠ b → (TJ7 a).2.1 ≠ (TJ7 b).2.1 := by decide +kernel
theorem tyJ7_ok : ∀ k, k < 0 → parseFieldDescriptor (TJ7 k).2.2.1 = some (tyJ7 k) := by decide +kernel
abbrev cJ7_fill_53178 : ByteArray := prog_20_method_103_code
def yJ7_fill_53178 : MethodName := ⟨RJ7, "fill", "([II)V"⟩
def RJ3 : String := "jdk/internal/util/Preconditions"
def TJ3 : u_T := fun k => match k with
  | _ => ("", "", "", false)
def tyJ3 : Nat → FieldType := fun k => match k with
  | _ => .int
abbrev wsJ30 : List Cond := u_ws RJ3 TJ3 0
theorem nmJ3 : ∀ a, a < 0 → ∀ b, b < 0 → a ≠ b → (TJ3 a).2.1 ≠ (TJ3 b).2.1 := by decide +kernel
theorem tyJ3_ok : ∀ k, k < 0 → parseFieldDescriptor (TJ3 k).2.2.1 = some (tyJ3 k) := by decide +kernel
abbrev cJ3_checkIndex_8e157 : ByteArray := prog_21_method_11_code
def yJ3_checkIndex_8e157 : MethodName := ⟨RJ3, "checkIndex", "(IILjava/util/function/BiFunction;)I"⟩
def RL : String := "BoardSumsLaw"
abbrev cL_law : ByteArray := code
abbrev vwCl : List vw_C := [(RX0, TX0, 3), (RX1, TX1, 7), (RX2, TX2, 3), (RX3, TX3, 2), (RX4, TX4, 5), (RX5, TX5, 3), (RX6, TX6, 4), (RX7, TX7, 2), (RX8, TX8, 6), (RX9, TX9, 7), (RX10, TX10, 9), (RX11, TX11, 38)]
/-- the words that last -/
def q_tb : List Cond := lw_tbl.filter goodWord
theorem inX0 : ∀ w ∈ wsX00, w ∈ q_tb := by decide +kernel
theorem inX1 : ∀ w ∈ wsX10, w ∈ q_tb := by decide +kernel
theorem inX2 : ∀ w ∈ wsX20, w ∈ q_tb := by decide +kernel
theorem inX3 : ∀ w ∈ wsX30, w ∈ q_tb := by decide +kernel
theorem inX4 : ∀ w ∈ wsX40, w ∈ q_tb := by decide +kernel
theorem inX5 : ∀ w ∈ wsX50, w ∈ q_tb := by decide +kernel
theorem inX6 : ∀ w ∈ wsX60, w ∈ q_tb := by decide +kernel
theorem inX7 : ∀ w ∈ wsX70, w ∈ q_tb := by decide +kernel
theorem inX8 : ∀ w ∈ wsX80, w ∈ q_tb := by decide +kernel
theorem inX9 : ∀ w ∈ wsX90, w ∈ q_tb := by decide +kernel
theorem inX10 : ∀ w ∈ wsX100, w ∈ q_tb := by decide +kernel
theorem inX11 : ∀ w ∈ wsX110, w ∈ q_tb := by decide +kernel
end
section
/-! THE ABSTRACT MACHINE: values over Int, names for cells, a memory of Ints; q_vc computes what must hold; q_rule (part 04) says that it is enough -/
abbrev QV : Type := Int ⊕ Int ⊕ Int
abbrev QM : Type := Int → Int → Int
abbrev QK : Type := Nat ⊕ Int
abbrev QS : Type := (Nat × List QK) ⊕ ((Nat ⊕ (Nat × Int)) × Nat)
abbrev QL : Type := List (Option QV)
abbrev QP : Type := List QV → QM → (Option QV → QM → Prop) → Prop
abbrev QE : Type := Instr × Nat × List (Int × Nat)
def q_rf (ad : Int → Nat) (a : Int) : Option Nat := if a < 0 then none else some (ad a)
def q_cv (ad : Int → Nat) : QV → Value
  | .inl z => .int (Int32.ofInt z)
  | .inr (.inl z) => .long (Int64.ofInt z)
  | .inr (.inr a) => va_rf (q_rf ad a)
def q_ct : QV → Nat
  | .inl _ => 1
  | .inr (.inl _) => 2
  | .inr (.inr _) => 1
def q_sv (μ : QM) (a : Int) (k : Nat) : QK → QV
  | .inl 0 => .inl (μ a k)
  | .inl 1 => .inr (.inl (μ a k))
  | .inl 2 => .inl (μ a k)
  | .inl _ => .inr (.inr (μ a k))
  | .inr n => .inr (.inr n)
def q_arr (ad : Int → Nat) (μ : QM) (a : Int) : Nat ⊕ (Nat × Int) → (Nat → Int32) ⊕ (Nat → Int64) ⊕ (Nat → UInt32) ⊕ (Nat → UInt64) ⊕ (Nat → Option Nat)
  | .inl 1 => .inr (.inl (fun j => Int64.ofInt (μ a j)))
  | .inl 4 => .inr (.inr (.inr (.inr (fun j => q_rf ad (μ a j)))))
  | .inl 5 => .inr (.inr (.inr (.inr (fun j => q_rf ad (μ a j)))))
  | .inl _ => .inl (fun j => Int32.ofInt (μ a j))
  | .inr (_, b) => .inr (.inr (.inr (.inr (fun j => q_rf ad (b + j)))))
def q_akd : Nat ⊕ (Nat × Int) → Nat
  | .inl t => t
  | .inr (t, _) => t
def q_ent (ad : Int → Nat) (cy : Nat → ClassId) (μ : QM) (a : Int) : Option QS → va_E
  | some (.inl (ci, ks)) => .inr (ci, ks.mapIdx (fun k sk => q_cv ad (q_sv μ a k sk)))
  | some (.inr (t, n)) => .inl (cy (q_akd t), n, q_arr ad μ a t)
  | none => .inr (0, [])
def q_ws (T : Int → Option QS) (N : List Int) (ad : Int → Nat) (cy : Nat → ClassId) (μ : QM) : va_W := N.map (fun a => (ad a, q_ent ad cy μ a (T a)))
abbrev q_tys (cy : Nat → ClassId) : List (ClassId × FieldType) := [(cy 0, .int), (cy 1, .long), (cy 2, .boolean), (cy 3, .char), (cy 4, .object RX4), (cy 5, .array .int)]
def q_up (μ : QM) (a k z : Int) : QM := fun b j => if b = a ∧ j = k then z else μ b j
/-! locals -/
def q_lg : QL → Nat → Option QV
  | [], _ => none
  | x :: _, 0 => x
  | _ :: t, k + 1 => q_lg t k
def q_clr : Option QV → Option QV
  | some (.inr (.inl _)) => none
  | x => x
def q_l1 : QL → Nat → QV → QL
  | [], _, _ => []
  | _ :: t, 0, v => some v :: t
  | x :: t, k + 1, v => (match k with | 0 => q_clr x | _ => x) :: q_l1 t k v
def q_dr : QL → QL
  | [] => []
  | _ :: t => none :: t
def q_l2 : QL → Nat → QV → QL
  | [], _, _ => []
  | _ :: t, 0, v => some v :: q_dr t
  | x :: t, k + 1, v => (match k with | 0 => q_clr x | _ => x) :: q_l2 t k v
def q_prs (ad : Int → Nat) (ls : QL) : List (Nat × Value) := (List.range ls.length).filterMap (fun i => (q_lg ls i).map (fun v => (i, q_cv ad v)))
/-! operations on bits -/
def q_and (a b : Int) : Int := (Int32.ofInt a &&& Int32.ofInt b).toInt
def q_or (a b : Int) : Int := (Int32.ofInt a ||| Int32.ofInt b).toInt
def q_xor (a b : Int) : Int := (Int32.ofInt a ^^^ Int32.ofInt b).toInt
def q_shl (a b : Int) : Int := (Int32.ofInt a <<< (Int32.ofInt b &&& 31)).toInt
def q_shr (a b : Int) : Int := (Int32.ofInt a >>> (Int32.ofInt b &&& 31)).toInt
def q_ush (a b : Int) : Int := ((Int32.ofInt a).toUInt32 >>> ((Int32.ofInt b).toUInt32 &&& Int32.toUInt32 31)).toInt32.toInt
def q_cmp (a b : Int) : Int := if b < a then 1 else if a = b then 0 else -1
abbrev q_r (a : Int) : Prop := -2147483648 ≤ a ∧ a ≤ 2147483647
abbrev q_R (a : Int) : Prop := -9223372036854775808 ≤ a ∧ a ≤ 9223372036854775807
/-! pieces of the step -/
def q_int (o : Option QV) (f : Int → Prop) : Prop := match o with
  | some (.inl z) => f z
  | _ => False
def q_lng (o : Option QV) (f : Int → Prop) : Prop := match o with
  | some (.inr (.inl z)) => f z
  | _ => False
def q_ref (o : Option QV) (f : Int → Prop) : Prop := match o with
  | some (.inr (.inr z)) => 0 ≤ z ∧ f z
  | _ => False
def q_fd (o : Option QS) (ci k : Nat) (f : QK → Prop) : Prop := match o with
  | some (.inl (cj, ks)) => ci = cj ∧ (match ks[k]? with
    | some sk => f sk
    | none => False)
  | _ => False
def q_pf (sk : QK) (v : QV) (f : Int → Prop) : Prop := match sk, v with
  | .inl 0, .inl z => f z
  | .inl 1, .inr (.inl z) => f z
  | .inl 2, .inl z => (z = 0 ∨ z = 1) ∧ f z
  | .inl 3, .inr (.inr z) => f z
  | _, _ => False
def q_ar (o : Option QS) (t : Nat) (i : Int) (f : Prop) : Prop := match o with
  | some (.inr (.inl u, n)) => t = u ∧ n ≤ 2147483647 ∧ 0 ≤ i ∧ i < (n : Int) ∧ f
  | _ => False
def q_aa (o : Option QS) (i : Int) (f : Int → Prop) : Prop := match o with
  | some (.inr (.inr (t, b), n)) => (t = 4 ∨ t = 5) ∧ n ≤ 2147483647 ∧ 0 ≤ i ∧ i < (n : Int) ∧ f (b + i)
  | _ => False
def q_al (o : Option QS) (f : Int → Prop) : Prop := match o with
  | some (.inr (t, n)) => q_akd t ≤ 5 ∧ f (n : Int)
  | _ => False
def q_sw (a : Int) (g : Nat → Prop) : List (Int × Nat) → Prop
  | [] => False
  | (v, t) :: r => match r with
    | [] => g t
    | _ => (a = v → g t) ∧ (¬ a = v → q_sw a g r)
def q_br (tg : List (Int × Nat)) (g : Nat → Prop) : Prop := match tg with
  | [(_, t)] => g t
  | _ => False
def q_cats (st : List QV) : Nat := (st.map q_ct).sum
def q_rk (rk : Nat) (a : Int) : Prop := match rk with
  | 0 => True
  | 1 => a = 0 ∨ a = 1
  | 2 => 0 ≤ a ∧ a < 65536
  | _ => False
def q_inv (G : Nat × QP) (st : List QV) (μ : QM) (f : List QV → QM → Prop) : Prop := G.1 ≤ st.length ∧ q_cats (st.drop G.1) ≤ 8 ∧ G.2 (st.take G.1) μ (fun o μ' => f (o.toList ++ st.drop G.1) μ')
section QST
variable (fl : Nat → Nat × Nat) (ld : Nat → QV) (Γ : Nat → Nat × QP) (T : Int → Option QS) (rk : Nat) (Rt : Option QV → QM → Prop)
def q_stp (go : List QE → Nat → QL → List QV → QM → Prop) (ins : Instr) (nx : Nat) (tg : List (Int × Nat)) (r : List QE) (ls : QL) (st : List QV) (μ : QM) : Prop := match ins, st with
  | .iconst v, st => go r nx ls (.inl v :: st) μ
  | .bipush v, st => (-128 ≤ v ∧ v < 128) ∧ go r nx ls (.inl v :: st) μ
  | .sipush v, st => (-32768 ≤ v ∧ v < 32768) ∧ go r nx ls (.inl v :: st) μ
  | .lconst v, st => go r nx ls (.inr (.inl (v : Nat)) :: st) μ
  | .ldc i, st => q_ct (ld i) = 1 ∧ go r nx ls (ld i :: st) μ
  | .ldc_w i, st => q_int (some (ld i)) (fun z => go r nx ls (.inl z :: st) μ)
  | .ldc2_w i, st => q_lng (some (ld i)) (fun z => go r nx ls (.inr (.inl z) :: st) μ)
  | .iload_n k, st => q_int (q_lg ls k) (fun z => go r nx ls (.inl z :: st) μ)
  | .iload k, st => q_int (q_lg ls k) (fun z => go r nx ls (.inl z :: st) μ)
  | .lload_n k, st => q_lng (q_lg ls k) (fun z => go r nx ls (.inr (.inl z) :: st) μ)
  | .lload k, st => q_lng (q_lg ls k) (fun z => go r nx ls (.inr (.inl z) :: st) μ)
  | .aload_n k, st => q_ref (q_lg ls k) (fun z => go r nx ls (.inr (.inr z) :: st) μ)
  | .aload k, st => q_ref (q_lg ls k) (fun z => go r nx ls (.inr (.inr z) :: st) μ)
  | .istore_n k, .inl z :: st => go r nx (q_l1 ls k (.inl z)) st μ
  | .istore k, .inl z :: st => go r nx (q_l1 ls k (.inl z)) st μ
  | .lstore_n k, .inr (.inl z) :: st => go r nx (q_l2 ls k (.inr (.inl z))) st μ
  | .lstore k, .inr (.inl z) :: st => go r nx (q_l2 ls k (.inr (.inl z))) st μ
  | .astore_n k, .inr (.inr z) :: st => 0 ≤ z ∧ go r nx (q_l1 ls k (.inr (.inr z))) st μ
  | .astore k, .inr (.inr z) :: st => 0 ≤ z ∧ go r nx (q_l1 ls k (.inr (.inr z))) st μ
  | .iinc k v, st => q_int (q_lg ls k) (fun z => go r nx (q_l1 ls k (.inl (z + v))) st μ)
  | .iadd, .inl b :: .inl a :: st => go r nx ls (.inl (a + b) :: st) μ
  | .isub, .inl b :: .inl a :: st => go r nx ls (.inl (a - b) :: st) μ
  | .imul, .inl b :: .inl a :: st => go r nx ls (.inl (a * b) :: st) μ
  | .ineg, .inl a :: st => go r nx ls (.inl (-a) :: st) μ
  | .iand, .inl b :: .inl a :: st => go r nx ls (.inl (q_and a b) :: st) μ
  | .ior, .inl b :: .inl a :: st => go r nx ls (.inl (q_or a b) :: st) μ
  | .ixor, .inl b :: .inl a :: st => go r nx ls (.inl (q_xor a b) :: st) μ
  | .ishl, .inl b :: .inl a :: st => go r nx ls (.inl (q_shl a b) :: st) μ
  | .ishr, .inl b :: .inl a :: st => go r nx ls (.inl (q_shr a b) :: st) μ
  | .iushr, .inl b :: .inl a :: st => go r nx ls (.inl (q_ush a b) :: st) μ
  | .idiv, .inl b :: .inl a :: st => (0 ≤ a ∧ a ≤ 2147483647 ∧ 0 < b ∧ b ≤ 2147483647) ∧ go r nx ls (.inl (a / b) :: st) μ
  | .irem, .inl b :: .inl a :: st => (0 ≤ a ∧ a ≤ 2147483647 ∧ 0 < b ∧ b ≤ 2147483647) ∧ go r nx ls (.inl (a % b) :: st) μ
  | .ladd, .inr (.inl b) :: .inr (.inl a) :: st => go r nx ls (.inr (.inl (a + b)) :: st) μ
  | .lsub, .inr (.inl b) :: .inr (.inl a) :: st => go r nx ls (.inr (.inl (a - b)) :: st) μ
  | .lmul, .inr (.inl b) :: .inr (.inl a) :: st => go r nx ls (.inr (.inl (a * b)) :: st) μ
  | .lcmp, .inr (.inl b) :: .inr (.inl a) :: st => (q_R a ∧ q_R b) ∧ go r nx ls (.inl (q_cmp a b) :: st) μ
  | .i2l, .inl a :: st => q_r a ∧ go r nx ls (.inr (.inl a) :: st) μ
  | .l2i, .inr (.inl a) :: st => go r nx ls (.inl a :: st) μ
  | .i2c, .inl a :: st => (0 ≤ a ∧ a < 65536) ∧ go r nx ls (.inl a :: st) μ
  | .dup, v :: st => q_ct v = 1 ∧ go r nx ls (v :: v :: st) μ
  | .dup2, v :: w :: st => (q_ct v = 1 ∧ q_ct w = 1) ∧ go r nx ls (v :: w :: v :: w :: st) μ
  | .ifCond .eq _, .inl a :: st => q_r a ∧ (a = 0 → q_br tg (fun t => go [] t ls st μ)) ∧ (¬ a = 0 → go r nx ls st μ)
  | .ifCond .ne _, .inl a :: st => q_r a ∧ (¬ a = 0 → q_br tg (fun t => go [] t ls st μ)) ∧ (a = 0 → go r nx ls st μ)
  | .ifCond .lt _, .inl a :: st => q_r a ∧ (a < 0 → q_br tg (fun t => go [] t ls st μ)) ∧ (¬ a < 0 → go r nx ls st μ)
  | .ifCond .ge _, .inl a :: st => q_r a ∧ (0 ≤ a → q_br tg (fun t => go [] t ls st μ)) ∧ (¬ 0 ≤ a → go r nx ls st μ)
  | .ifCond .gt _, .inl a :: st => q_r a ∧ (0 < a → q_br tg (fun t => go [] t ls st μ)) ∧ (¬ 0 < a → go r nx ls st μ)
  | .ifCond .le _, .inl a :: st => q_r a ∧ (a ≤ 0 → q_br tg (fun t => go [] t ls st μ)) ∧ (¬ a ≤ 0 → go r nx ls st μ)
  | .if_icmp .eq _, .inl b :: .inl a :: st => (q_r a ∧ q_r b) ∧ (a = b → q_br tg (fun t => go [] t ls st μ)) ∧ (¬ a = b → go r nx ls st μ)
  | .if_icmp .ne _, .inl b :: .inl a :: st => (q_r a ∧ q_r b) ∧ (¬ a = b → q_br tg (fun t => go [] t ls st μ)) ∧ (a = b → go r nx ls st μ)
  | .if_icmp .lt _, .inl b :: .inl a :: st => (q_r a ∧ q_r b) ∧ (a < b → q_br tg (fun t => go [] t ls st μ)) ∧ (¬ a < b → go r nx ls st μ)
  | .if_icmp .ge _, .inl b :: .inl a :: st => (q_r a ∧ q_r b) ∧ (b ≤ a → q_br tg (fun t => go [] t ls st μ)) ∧ (¬ b ≤ a → go r nx ls st μ)
  | .if_icmp .gt _, .inl b :: .inl a :: st => (q_r a ∧ q_r b) ∧ (b < a → q_br tg (fun t => go [] t ls st μ)) ∧ (¬ b < a → go r nx ls st μ)
  | .if_icmp .le _, .inl b :: .inl a :: st => (q_r a ∧ q_r b) ∧ (a ≤ b → q_br tg (fun t => go [] t ls st μ)) ∧ (¬ a ≤ b → go r nx ls st μ)
  | .goto _, st => q_br tg (fun t => go [] t ls st μ)
  | .tableswitch _ _ _ _, .inl a :: st => q_r a ∧ q_sw a (fun t => go [] t ls st μ) tg
  | .lookupswitch _ _, .inl a :: st => q_r a ∧ q_sw a (fun t => go [] t ls st μ) tg
  | .ireturn, [.inl a] => q_rk rk a ∧ Rt (some (.inl a)) μ
  | .areturn, [.inr (.inr a)] => rk = 3 ∧ 0 ≤ a ∧ Rt (some (.inr (.inr a))) μ
  | .return_, [] => rk = 4 ∧ Rt none μ
  | .getfield i, .inr (.inr a) :: st => q_fd (T a) (fl i).1 (fl i).2 (fun sk => go r nx ls (q_sv μ a (fl i).2 sk :: st) μ)
  | .putfield i, v :: .inr (.inr a) :: st => q_fd (T a) (fl i).1 (fl i).2 (fun sk => q_pf sk v (fun z => go r nx ls st (q_up μ a (fl i).2 z)))
  | .iaload, .inl i :: .inr (.inr a) :: st => q_ar (T a) 0 i (go r nx ls (.inl (μ a i) :: st) μ)
  | .laload, .inl i :: .inr (.inr a) :: st => q_ar (T a) 1 i (go r nx ls (.inr (.inl (μ a i)) :: st) μ)
  | .baload, .inl i :: .inr (.inr a) :: st => q_ar (T a) 2 i (go r nx ls (.inl (μ a i) :: st) μ)
  | .caload, .inl i :: .inr (.inr a) :: st => q_ar (T a) 3 i (go r nx ls (.inl (μ a i) :: st) μ)
  | .aaload, .inl i :: .inr (.inr a) :: st => q_aa (T a) i (fun b => 0 ≤ b ∧ go r nx ls (.inr (.inr b) :: st) μ)
  | .iastore, .inl v :: .inl i :: .inr (.inr a) :: st => q_ar (T a) 0 i (go r nx ls st (q_up μ a i v))
  | .lastore, .inr (.inl v) :: .inl i :: .inr (.inr a) :: st => q_ar (T a) 1 i (go r nx ls st (q_up μ a i v))
  | .bastore, .inl v :: .inl i :: .inr (.inr a) :: st => q_ar (T a) 2 i ((v = 0 ∨ v = 1) ∧ go r nx ls st (q_up μ a i v))
  | .castore, .inl v :: .inl i :: .inr (.inr a) :: st => q_ar (T a) 3 i ((0 ≤ v ∧ v < 65536) ∧ go r nx ls st (q_up μ a i v))
  | .arraylength, .inr (.inr a) :: st => q_al (T a) (fun n => go r nx ls (.inl n :: st) μ)
  | .invokevirtual i, st => q_inv (Γ i) st μ (fun st' μ' => go r nx ls st' μ')
  | .invokestatic i, st => q_inv (Γ i) st μ (fun st' μ' => go r nx ls st' μ')
  | .invokespecial i, st => q_inv (Γ i) st μ (fun st' μ' => go r nx ls st' μ')
  | _, _ => False
def q_vc (sk : Nat → Option (List QE)) (S : Nat → QL → List QV → QM → Prop) : Nat → List QE → Nat → QL → List QV → QM → Prop
  | 0, _, _, _, _, _ => False
  | n + 1, [], pc, ls, st, μ => match sk pc with
    | none => S pc ls st μ
    | some b => q_vc sk S n b pc ls st μ
  | n + 1, (ins, nx, tg) :: r, _, ls, st, μ => q_stp fl ld Γ T rk Rt (q_vc sk S n) ins nx tg r ls st μ
end QST
/-! the table against the bytes -/
def q_sto (nL : Nat) : Instr → Bool
  | .istore_n k => decide ((k : Nat) < nL)
  | .istore k => decide (k < nL)
  | .astore_n k => decide ((k : Nat) < nL)
  | .astore k => decide (k < nL)
  | .lstore_n k => decide ((k : Nat) + 1 < nL)
  | .lstore k => decide (k + 1 < nL)
  | .iinc k _ => decide (k < nL)
  | _ => true
def q_tgt (pc : Nat) (tg : List (Int × Nat)) : Instr → Bool
  | .goto o => decide (tg.map (fun q => (q.2 : Int)) = [(pc : Int) + o])
  | .ifCond _ o => decide (tg.map (fun q => (q.2 : Int)) = [(pc : Int) + o])
  | .if_icmp _ o => decide (tg.map (fun q => (q.2 : Int)) = [(pc : Int) + o])
  | .tableswitch d lo hi offs => decide (tg.map (fun q => (q.1, (q.2 : Int))) = ((List.range offs.size).map (fun (i : Nat) => (lo + (i : Int), (pc : Int) + offs.getD i 0))) ++ [((0 : Int), (pc : Int) + d)] ∧ (offs.size : Int) = hi - lo + 1)
  | .lookupswitch d ps => decide (tg.map (fun q => (q.1, (q.2 : Int))) = (ps.toList.map (fun q => (q.1, (pc : Int) + q.2))) ++ [((0 : Int), (pc : Int) + d)] ∧ (ps.toList.zip (ps.toList.drop 1)).all (fun (a, next) => a.1 < next.1) = true)
  | _ => true
def q_len : Instr → Nat
  | .bipush _ => 2
  | .sipush _ => 3
  | .ldc _ => 2
  | .ldc_w _ => 3
  | .ldc2_w _ => 3
  | .iload _ => 2
  | .lload _ => 2
  | .aload _ => 2
  | .istore _ => 2
  | .lstore _ => 2
  | .astore _ => 2
  | .iinc _ _ => 3
  | .ifCond _ _ => 3
  | .if_icmp _ _ => 3
  | .goto _ => 3
  | .getfield _ => 3
  | .putfield _ => 3
  | .invokevirtual _ => 3
  | .invokestatic _ => 3
  | .invokespecial _ => 3
  | _ => 1
def q_dec (cc : ByteArray) (pc nx : Nat) (ins : Instr) : Bool := match ins with
  | .tableswitch a b c d => decide (decode cc pc = .ok (.tableswitch a b c d, nx - pc))
  | .lookupswitch a b => decide (decode cc pc = .ok (.lookupswitch a b, nx - pc))
  | i => decide (decode cc pc = .ok (i, q_len i) ∧ nx = pc + q_len i)
/-- fields read, fields written, numbers of the pool, texts of the pool, calls: virtual, static, special -/
abbrev QU : Type := List Nat × List Nat × List Nat × List Nat × List Nat × List Nat × List Nat
def q_use (u : QU) : Instr → Bool
  | .getfield i => decide (i ∈ u.1)
  | .putfield i => decide (i ∈ u.1 ∧ i ∈ u.2.1)
  | .ldc i => decide (i ∈ u.2.2.1 ∨ i ∈ u.2.2.2.1)
  | .ldc_w i => decide (i ∈ u.2.2.1)
  | .ldc2_w i => decide (i ∈ u.2.2.1)
  | .invokevirtual i => decide (i ∈ u.2.2.2.2.1)
  | .invokestatic i => decide (i ∈ u.2.2.2.2.2.1)
  | .invokespecial i => decide (i ∈ u.2.2.2.2.2.2)
  | _ => true
def q_ok (cc : ByteArray) (nL : Nat) (u : QU) : Nat → List QE → Bool
  | _, [] => true
  | pc, (ins, nx, tg) :: r => q_dec cc pc nx ins && q_sto nL ins && q_tgt pc tg ins && q_use u ins && q_ok cc nL u nx r
end
section
/-! numbers -/
theorem q_ti {a : Int} (h : q_r a) : (Int32.ofInt a).toInt = a := Int32.toInt_ofInt_of_le (by have := h.1; omega) (by have := h.2; omega)
theorem q_tl {a : Int} (h : q_R a) : (Int64.ofInt a).toInt = a := Int64.toInt_ofInt_of_le (by have := h.1; omega) (by have := h.2; omega)
theorem q_eq {a b : Int} (ha : q_r a) (hb : q_r b) : Int32.ofInt a = Int32.ofInt b ↔ a = b := by rw [← Int32.toInt_inj, q_ti ha, q_ti hb]
theorem q_lt {a b : Int} (ha : q_r a) (hb : q_r b) : Int32.ofInt a < Int32.ofInt b ↔ a < b := by rw [Int32.lt_iff_toInt_lt, q_ti ha, q_ti hb]
theorem q_le {a b : Int} (ha : q_r a) (hb : q_r b) : Int32.ofInt a ≤ Int32.ofInt b ↔ a ≤ b := by rw [Int32.le_iff_toInt_le, q_ti ha, q_ti hb]
theorem q_r0 : q_r 0 := by decide
theorem q_eq0 {a : Int} (ha : q_r a) : Int32.ofInt a = 0 ↔ a = 0 := q_eq ha q_r0
theorem q_lt0 {a : Int} (ha : q_r a) : Int32.ofInt a < 0 ↔ a < 0 := q_lt ha q_r0
theorem q_ge0 {a : Int} (ha : q_r a) : (0 : Int32) ≤ Int32.ofInt a ↔ 0 ≤ a := q_le q_r0 ha
theorem q_gt0 {a : Int} (ha : q_r a) : (0 : Int32) < Int32.ofInt a ↔ 0 < a := q_lt q_r0 ha
theorem q_le0 {a : Int} (ha : q_r a) : Int32.ofInt a ≤ 0 ↔ a ≤ 0 := q_le ha q_r0
theorem q_cl {a : Int} (h0 : 0 ≤ a) (h1 : a ≤ 2147483647) : (Int32.ofInt a).toNatClampNeg = a.toNat := Int32.toNatClampNeg_ofInt_of_le (by omega) (by omega)
theorem q_in {i : Int} {n : Nat} (hn : n ≤ 2147483647) (h0 : 0 ≤ i) (h1 : i < (n : Int)) : vp_in (Int32.ofInt i) n := by
  unfold vp_in
  rw [q_cl h0 (by omega), q_lt0 ⟨by omega, by omega⟩]
  omega
theorem q_nat {i : Int} (h0 : 0 ≤ i) : ((i.toNat : Nat) : Int) = i := Int.toNat_of_nonneg h0
theorem q_cmpS {a b : Int} (ha : q_R a) (hb : q_R b) : lg_cmp (Int64.ofInt a) (Int64.ofInt b) = Int32.ofInt (q_cmp a b) := by
  unfold lg_cmp q_cmp
  have h1 : Int64.ofInt a > Int64.ofInt b ↔ b < a := by
    show Int64.ofInt b < Int64.ofInt a ↔ b < a
    rw [Int64.lt_iff_toInt_lt, q_tl ha, q_tl hb]
  have h2 : Int64.ofInt a = Int64.ofInt b ↔ a = b := by rw [← Int64.toInt_inj, q_tl ha, q_tl hb]
  by_cases c1 : b < a
  · rw [if_pos (h1.mpr c1), if_pos c1]; rfl
  · rw [if_neg (fun q => c1 (h1.mp q)), if_neg c1]
    by_cases c2 : a = b
    · rw [if_pos (h2.mpr c2), if_pos c2]; rfl
    · rw [if_neg (fun q => c2 (h2.mp q)), if_neg c2]; rfl
theorem q_divS {a b : Int} (h : 0 ≤ a ∧ a ≤ 2147483647 ∧ 0 < b ∧ b ≤ 2147483647) : Int32.ofInt a / Int32.ofInt b = Int32.ofInt (a / b) := by
  obtain ⟨h1, h2, h3, h4⟩ := h
  rw [← Int.tdiv_eq_ediv_of_nonneg h1]
  exact (Int32.ofInt_tdiv (by show (-2147483648 : Int) ≤ a; omega) (by show a ≤ (2147483647 : Int); omega) (by show (-2147483648 : Int) ≤ b; omega) (by show b ≤ (2147483647 : Int); omega)).symm
theorem q_remS {a b : Int} (h : 0 ≤ a ∧ a ≤ 2147483647 ∧ 0 < b ∧ b ≤ 2147483647) : Int32.ofInt a - Int32.ofInt a / Int32.ofInt b * Int32.ofInt b = Int32.ofInt (a % b) := by
  rw [q_divS h, ← Int32.ofInt_mul, ← Int32.ofInt_sub]
  congr 1
  have := Int.emod_add_mul_ediv a b
  have h2 := Int.mul_comm b (a / b)
  omega
theorem q_i2l {a : Int} (h : q_r a) : (Int32.ofInt a).toInt64 = Int64.ofInt a := Int32.toInt64_ofInt (by show (-2147483648 : Int) ≤ a; exact h.1) (by show a ≤ (2147483647 : Int); exact h.2)
theorem q_i2c {a : Int} (h0 : 0 ≤ a) (h1 : a < 65536) : ((Int32.ofInt a).toUInt32 % 65536).toInt32 = Int32.ofInt a := by
  have h : (Int32.ofInt a).toInt = a := q_ti ⟨by omega, by omega⟩
  exact lg_i2c_word (by omega) (by omega)
theorem q_bip {v : Int} (h : -128 ≤ v ∧ v < 128) : (Int8.ofInt v).toInt32 = Int32.ofInt v := by
  rw [← Int32.ofInt_int8ToInt, Int8.toInt_ofInt_of_le (by omega) (by omega)]
theorem q_sip {v : Int} (h : -32768 ≤ v ∧ v < 32768) : (Int16.ofInt v).toInt32 = Int32.ofInt v := by
  rw [← Int32.ofInt_int16ToInt, Int16.toInt_ofInt_of_le (by omega) (by omega)]
theorem q_ctv (ad : Int → Nat) (v : QV) : (q_cv ad v).category = q_ct v := by
  rcases v with z | z | z
  · rfl
  · rfl
  · show (va_rf (q_rf ad z)).category = 1
    unfold q_rf
    split <;> rfl
theorem q_catsS (ad : Int → Nat) (st : List QV) : ((st.map (q_cv ad)).map fun v => v.category).sum = q_cats st := by
  unfold q_cats
  rw [List.map_map]
  congr 1
  exact List.map_congr_left (fun v _ => q_ctv ad v)
/-! locals -/
theorem q_lgn : ∀ (ls : QL) (i : Nat) (v : QV), q_lg ls i = some v → i < ls.length
  | [], _, _, h => by cases h
  | _ :: _, 0, _, _ => by simp
  | _ :: t, k + 1, v, h => by
    have := q_lgn t k v h
    simp only [List.length_cons]
    omega
theorem q_mem {ad : Int → Nat} {ls : QL} {i : Nat} {v : QV} (h : q_lg ls i = some v) : (i, q_cv ad v) ∈ q_prs ad ls := by
  unfold q_prs
  refine List.mem_filterMap.mpr ⟨i, List.mem_range.mpr (q_lgn ls i v h), ?_⟩
  rw [h]
  rfl
theorem q_mem2 {ad : Int → Nat} {ls : QL} {q : Nat × Value} (h : q ∈ q_prs ad ls) : ∃ v, q_lg ls q.1 = some v ∧ q.2 = q_cv ad v := by
  unfold q_prs at h
  obtain ⟨i, -, hi⟩ := List.mem_filterMap.mp h
  cases hv : q_lg ls i with
  | none => rw [hv] at hi; cases hi
  | some v => rw [hv] at hi; cases hi; exact ⟨v, hv, rfl⟩
theorem q_clr_some {x : Option QV} {w : QV} (h : q_clr x = some w) : x = some w ∧ ¬ q_ct w = 2 := by
  rcases x with _ | z | z | z
  · cases h
  · cases h; exact ⟨rfl, by simp [q_ct]⟩
  · cases h
  · cases h; exact ⟨rfl, by simp [q_ct]⟩
theorem q_l1g : ∀ (ls : QL) (i : Nat) (v : QV) (j : Nat) (w : QV), q_lg (q_l1 ls i v) j = some w → (j = i ∧ w = v) ∨ (j ≠ i ∧ q_lg ls j = some w ∧ ¬ (j + 1 = i ∧ q_ct w = 2))
  | [], _, _, _, _, h => by cases h
  | x :: t, 0, v, 0, w, h => Or.inl ⟨rfl, by cases h; rfl⟩
  | x :: t, 0, v, j + 1, w, h => Or.inr ⟨by omega, h, by omega⟩
  | x :: t, k + 1, v, 0, w, h => by
    refine Or.inr ⟨by omega, ?_⟩
    cases k with
    | zero =>
      have h1 : q_clr x = some w := h
      obtain ⟨a, b⟩ := q_clr_some h1
      exact ⟨a, fun q => b q.2⟩
    | succ k =>
      have h1 : x = some w := h
      exact ⟨h1, by omega⟩
  | x :: t, k + 1, v, j + 1, w, h => by
    have h1 : q_lg (q_l1 t k v) j = some w := h
    rcases q_l1g t k v j w h1 with ⟨a, b⟩ | ⟨a, b, c⟩
    · exact Or.inl ⟨by omega, b⟩
    · exact Or.inr ⟨by omega, b, by omega⟩
theorem q_l1n : ∀ (ls : QL) (i : Nat) (v : QV), (q_l1 ls i v).length = ls.length
  | [], _, _ => rfl
  | _ :: _, 0, _ => rfl
  | _ :: t, k + 1, v => by
    show (q_l1 t k v).length + 1 = _
    rw [q_l1n t k v]
    rfl
theorem q_drg : ∀ (ls : QL) (j : Nat) (w : QV), q_lg (q_dr ls) j = some w → j ≠ 0 ∧ q_lg ls j = some w
  | [], _, _, h => by cases h
  | x :: t, 0, w, h => by cases h
  | x :: t, j + 1, w, h => ⟨by omega, h⟩
theorem q_drn (ls : QL) : (q_dr ls).length = ls.length := by cases ls <;> rfl
theorem q_l2g : ∀ (ls : QL) (i : Nat) (v : QV) (j : Nat) (w : QV), q_lg (q_l2 ls i v) j = some w → (j = i ∧ w = v) ∨ (j ≠ i ∧ j ≠ i + 1 ∧ q_lg ls j = some w ∧ ¬ (j + 1 = i ∧ q_ct w = 2))
  | [], _, _, _, _, h => by cases h
  | x :: t, 0, v, 0, w, h => Or.inl ⟨rfl, by cases h; rfl⟩
  | x :: t, 0, v, j + 1, w, h => by
    have h1 : q_lg (q_dr t) j = some w := h
    obtain ⟨a, b⟩ := q_drg t j w h1
    exact Or.inr ⟨by omega, by omega, b, by omega⟩
  | x :: t, k + 1, v, 0, w, h => by
    refine Or.inr ⟨by omega, by omega, ?_⟩
    cases k with
    | zero =>
      have h1 : q_clr x = some w := h
      obtain ⟨a, b⟩ := q_clr_some h1
      exact ⟨a, fun q => b q.2⟩
    | succ k =>
      have h1 : x = some w := h
      exact ⟨h1, by omega⟩
  | x :: t, k + 1, v, j + 1, w, h => by
    have h1 : q_lg (q_l2 t k v) j = some w := h
    rcases q_l2g t k v j w h1 with ⟨a, b⟩ | ⟨a, b, c, d⟩
    · exact Or.inl ⟨by omega, b⟩
    · exact Or.inr ⟨by omega, by omega, c, by omega⟩
theorem q_l2n : ∀ (ls : QL) (i : Nat) (v : QV), (q_l2 ls i v).length = ls.length
  | [], _, _ => rfl
  | _ :: t, 0, v => by
    show (q_dr t).length + 1 = _
    rw [q_drn]
    rfl
  | _ :: t, k + 1, v => by
    show (q_l2 t k v).length + 1 = _
    rw [q_l2n t k v]
    rfl
theorem q_get {ad : Int → Nat} {la : Array Slot} {nL : Nat} {ls : QL} {i : Nat} {v : QV} (h : lv_has la nL (q_prs ad ls)) (hv : q_lg ls i = some v) : la[i]? = some (.val (q_cv ad v)) := h.2.2 _ (q_mem hv)
theorem q_put1 {ad : Int → Nat} {la : Array Slot} {nL : Nat} {ls : QL} {i : Nat} {v : QV} (h : lv_has la nL ((i, q_cv ad v) :: (q_prs ad ls).filter (fun q => !(q.1 == i) && !(q.1 + 1 == i && q.2.category == 2)))) : lv_has la nL (q_prs ad (q_l1 ls i v)) := by
  refine ⟨h.1, h.2.1, fun q hq => h.2.2 q ?_⟩
  obtain ⟨w, h1, h2⟩ := q_mem2 hq
  rcases q_l1g ls i v q.1 w h1 with ⟨a, b⟩ | ⟨a, b, c⟩
  · obtain ⟨q1, q2⟩ := q
    cases a; cases b; cases h2
    exact List.mem_cons_self
  · refine List.mem_cons_of_mem _ (List.mem_filter.mpr ⟨?_, ?_⟩)
    · obtain ⟨q1, q2⟩ := q
      cases h2
      exact q_mem b
    · rw [h2, q_ctv]
      simp only [Bool.and_eq_true, Bool.not_eq_true', beq_eq_false_iff_ne, ne_eq, Bool.and_eq_false_imp, beq_iff_eq]
      exact ⟨a, fun e1 e2 => c ⟨e1, e2⟩⟩
theorem q_put2 {ad : Int → Nat} {la : Array Slot} {nL : Nat} {ls : QL} {i : Nat} {v : QV} (h : lv_has la nL ((i, q_cv ad v) :: (q_prs ad ls).filter (fun q => !(q.1 == i) && (!(q.1 == i + 1) && !(q.1 + 1 == i && q.2.category == 2))))) : lv_has la nL (q_prs ad (q_l2 ls i v)) := by
  refine ⟨h.1, h.2.1, fun q hq => h.2.2 q ?_⟩
  obtain ⟨w, h1, h2⟩ := q_mem2 hq
  rcases q_l2g ls i v q.1 w h1 with ⟨a, b⟩ | ⟨a, b, c, d⟩
  · obtain ⟨q1, q2⟩ := q
    cases a; cases b; cases h2
    exact List.mem_cons_self
  · refine List.mem_cons_of_mem _ (List.mem_filter.mpr ⟨?_, ?_⟩)
    · obtain ⟨q1, q2⟩ := q
      cases h2
      exact q_mem c
    · rw [h2, q_ctv]
      simp only [Bool.and_eq_true, Bool.not_eq_true', beq_eq_false_iff_ne, ne_eq, Bool.and_eq_false_imp, beq_iff_eq]
      exact ⟨a, b, fun e1 e2 => d ⟨e1, e2⟩⟩
/-! worlds -/
theorem q_wsg {T : Int → Option QS} {N : List Int} {ad : Int → Nat} {cy : Nat → ClassId} {μ : QM} {a : Int} (h : a ∈ N) : ∃ k : Nat, N[k]? = some a ∧ (q_ws T N ad cy μ)[k]? = some (ad a, q_ent ad cy μ a (T a)) := by
  obtain ⟨k, hk⟩ := List.getElem?_of_mem h
  exact ⟨k, hk, by unfold q_ws; rw [List.getElem?_map, hk]; rfl⟩
theorem q_wss {T : Int → Option QS} {N : List Int} {ad : Int → Nat} {cy : Nat → ClassId} {μ μ' : QM} {a : Int} {k : Nat} {e : va_E} (hN : ∀ (i j : Nat) (a : Int), N[i]? = some a → N[j]? = some a → i = j) (hk : N[k]? = some a) (he : e = q_ent ad cy μ' a (T a)) (ho : ∀ b, b ≠ a → q_ent ad cy μ' b (T b) = q_ent ad cy μ b (T b)) : (q_ws T N ad cy μ).set k (ad a, e) = q_ws T N ad cy μ' := by
  subst he
  have hl : k < N.length := (List.getElem?_eq_some_iff.mp hk).1
  refine List.ext_getElem? fun j => ?_
  unfold q_ws
  by_cases hj : j = k
  · subst hj
    rw [List.getElem?_set_self (by rw [List.length_map]; exact hl), List.getElem?_map, hk]
    rfl
  · rw [List.getElem?_set_ne (Ne.symm hj), List.getElem?_map, List.getElem?_map]
    cases hb : N[j]? with
    | none => rfl
    | some b =>
      have hne : b ≠ a := fun q => hj (hN j k a (by rw [hb, q]) hk)
      show some (ad b, q_ent ad cy μ b (T b)) = some (ad b, q_ent ad cy μ' b (T b))
      rw [ho b hne]
theorem q_upo {ad : Int → Nat} {cy : Nat → ClassId} {μ : QM} {a k z b : Int} (o : Option QS) (h : b ≠ a) : q_ent ad cy (q_up μ a k z) b o = q_ent ad cy μ b o := by
  have e : ∀ j, q_up μ a k z b j = μ b j := fun j => by simp [q_up, h]
  have e1 : ∀ (j : Nat) (sk : QK), q_sv (q_up μ a k z) b j sk = q_sv μ b j sk := by
    intro j sk
    unfold q_sv
    split <;> simp only [e]
  have e2 : ∀ t, q_arr ad (q_up μ a k z) b t = q_arr ad μ b t := by
    intro t
    unfold q_arr
    split <;> simp only [e]
  rcases o with _ | ⟨ci, ks⟩ | ⟨t, n⟩
  · rfl
  · simp only [q_ent, e1]
  · simp only [q_ent, e2]
end
section
/-! what q_stp says is enough: each instruction by the kit's row -/
/-- the machine at pc with these locals, this stack, this memory comes to Q -/
def q_SW (p : Program) (l : Launch) (e : Env) (R : Room) (s : State) (m : MethodId) (args : Array Value) (below : List Frame) (meth : Method) (c : Code) (A : Nat → Prop) (H0 : Heap) (T : Int → Option QS) (N : List Int) (ad : Int → Nat) (D : va_G) (cy : Nat → ClassId) (nL : Nat) (Q : State → Prop) (pc : Nat) (ls : QL) (st : List QV) (μ : QM) : Prop :=
  ls.length = nL → ∀ (H : Heap) (locs : List Loc) (la : Array Slot), va_P D vwCl (q_ws T N ad cy μ) H → va_D A (q_ws T N ad cy μ) → va_S A H0 H locs → lv_has la nL (q_prs ad ls) → W p l e R s m args below meth c H locs 0 0 Q (F0 m pc la (st.map (q_cv ad)))
def q_kt (sk : QK) (ty : FieldType) : Prop := match sk with
  | .inl 0 => ty = .int
  | .inl 1 => ty = .long
  | .inl 2 => ty = .boolean
  | .inl 3 => (∃ n, ty = .object n) ∨ ∃ t, ty = .array t
  | _ => True
def q_kok (q : vw_C) (ks : List QK) : Prop := ks.length = q.2.2 ∧ ∀ (k : Nat) (sk : QK), ks[k]? = some sk → ∃ ty, parseFieldDescriptor (q.2.1 k).2.2.1 = some ty ∧ q_kt sk ty
/-- what is fixed in a body -/
def q_Fix (p : Program) (s : State) (m : MethodId) (args : Array Value) (meth : Method) (c : Code) (T : Int → Option QS) (N : List Int) (D : va_G) (cy : Nat → ClassId) (own : String) (cc : ByteArray) : Prop :=
  p.tables.exec = Jvm.exec ∧ c.code = cc ∧ s.vm.findClass own = some m.cls ∧ (∀ w ∈ q_tb, w.before args s = true) ∧ va_K D vwCl (q_tys cy) s ∧ meth.locks = false ∧
  (∀ (i j : Nat) (a : Int), N[i]? = some a → N[j]? = some a → i = j) ∧ (∀ (a : Int) (sh : QS), T a = some sh → a ∈ N ∧ 0 ≤ a) ∧ (∀ (a : Int) (ci : Nat) (ks : List QK) (q : vw_C), T a = some (.inl (ci, ks)) → vwCl[ci]? = some q → q_kok q ks)
/-- the fields' pool entries -/
def q_fok (own : String) (fl : Nat → Nat × Nat) (is : List Nat) : Prop := ∀ i ∈ is, ∃ q : vw_C, vwCl[(fl i).1]? = some q ∧ (fl i).2 < q.2.2 ∧ q.1 = (q.2.1 (fl i).2).1 ∧ Cond.fieldLink own i (q.2.1 (fl i).2).1 (q.2.1 (fl i).2).2.1 (q.2.1 (fl i).2).2.2.1 ∈ q_tb
def q_fokP (own : String) (fl : Nat → Nat × Nat) (is : List Nat) : Prop := ∀ i ∈ is, ∃ q : vw_C, vwCl[(fl i).1]? = some q ∧ (q.2.1 (fl i).2).2.2.2 = false
theorem q_cls {q : vw_C} (hq : q ∈ vwCl) : (∀ w ∈ u_ws q.1 q.2.1 q.2.2, w ∈ q_tb) ∧ ∃ ty0 : Nat → FieldType, (∀ k, k < q.2.2 → parseFieldDescriptor (q.2.1 k).2.2.1 = some (ty0 k)) ∧ ∀ a, a < q.2.2 → ∀ b, b < q.2.2 → a ≠ b → (q.2.1 a).2.1 ≠ (q.2.1 b).2.1 := by
  simp only [vwCl, List.mem_cons, List.not_mem_nil, or_false] at hq
  rcases hq with rfl | rfl | rfl | rfl | rfl | rfl | rfl | rfl | rfl | rfl | rfl | rfl
  · exact ⟨inX0, tyX0, tyX0_ok, nmX0⟩
  · exact ⟨inX1, tyX1, tyX1_ok, nmX1⟩
  · exact ⟨inX2, tyX2, tyX2_ok, nmX2⟩
  · exact ⟨inX3, tyX3, tyX3_ok, nmX3⟩
  · exact ⟨inX4, tyX4, tyX4_ok, nmX4⟩
  · exact ⟨inX5, tyX5, tyX5_ok, nmX5⟩
  · exact ⟨inX6, tyX6, tyX6_ok, nmX6⟩
  · exact ⟨inX7, tyX7, tyX7_ok, nmX7⟩
  · exact ⟨inX8, tyX8, tyX8_ok, nmX8⟩
  · exact ⟨inX9, tyX9, tyX9_ok, nmX9⟩
  · exact ⟨inX10, tyX10, tyX10_ok, nmX10⟩
  · exact ⟨inX11, tyX11, tyX11_ok, nmX11⟩
section QS5
variable {p : Program} {l : Launch} {e : Env} {R : Room} {s : State} {m : MethodId} {args : Array Value} {below : List Frame} {meth : Method} {c : Code} {A : Nat → Prop} {H0 : Heap} {T : Int → Option QS} {N : List Int} {ad : Int → Nat} {D : va_G} {cy : Nat → ClassId} {nL : Nat} {Q : State → Prop} {own : String} {cc : ByteArray}
variable {pc nx : Nat} {ls : QL} {st : List QV} {μ : QM}
theorem q_refv {z : Int} (h : 0 ≤ z) : q_cv ad (.inr (.inr z)) = .ref (ad z) := by
  show va_rf (q_rf ad z) = _
  unfold q_rf
  rw [if_neg (by omega)]
  rfl
theorem q_loadI (F : q_Fix p s m args meth c T N D cy own cc) {k : Nat} (hd : (∃ f : Fin 4, (f : Nat) = k ∧ decode cc pc = .ok (.iload_n f, 1) ∧ nx = pc + 1) ∨ (decode cc pc = .ok (.iload k, 2) ∧ nx = pc + 2)) {z : Int} (hv : q_lg ls k = some (.inl z))
    (K : q_SW p l e R s m args below meth c A H0 T N ad D cy nL Q nx ls (.inl z :: st) μ) : q_SW p l e R s m args below meth c A H0 T N ad D cy nL Q pc ls st μ := by
  intro hn H locs la hP hD hS hl
  rcases hd with ⟨f, hf, hd, rfl⟩ | ⟨hd, rfl⟩
  · exact lv_iload_n F.1 F.2.1 hd hf (q_get hl hv) (K hn H locs la hP hD hS hl)
  · exact lv_iload F.1 F.2.1 hd (q_get hl hv) (K hn H locs la hP hD hS hl)
theorem q_loadL (F : q_Fix p s m args meth c T N D cy own cc) {k : Nat} (hd : (∃ f : Fin 4, (f : Nat) = k ∧ decode cc pc = .ok (.lload_n f, 1) ∧ nx = pc + 1) ∨ (decode cc pc = .ok (.lload k, 2) ∧ nx = pc + 2)) {z : Int} (hv : q_lg ls k = some (.inr (.inl z)))
    (K : q_SW p l e R s m args below meth c A H0 T N ad D cy nL Q nx ls (.inr (.inl z) :: st) μ) : q_SW p l e R s m args below meth c A H0 T N ad D cy nL Q pc ls st μ := by
  intro hn H locs la hP hD hS hl
  rcases hd with ⟨f, hf, hd, rfl⟩ | ⟨hd, rfl⟩
  · exact lv_lload_n F.1 F.2.1 hd hf (q_get hl hv) (K hn H locs la hP hD hS hl)
  · exact lv_lload F.1 F.2.1 hd (q_get hl hv) (K hn H locs la hP hD hS hl)
theorem q_loadA (F : q_Fix p s m args meth c T N D cy own cc) {k : Nat} (hd : (∃ f : Fin 4, (f : Nat) = k ∧ decode cc pc = .ok (.aload_n f, 1) ∧ nx = pc + 1) ∨ (decode cc pc = .ok (.aload k, 2) ∧ nx = pc + 2)) {z : Int} (h0 : 0 ≤ z) (hv : q_lg ls k = some (.inr (.inr z)))
    (K : q_SW p l e R s m args below meth c A H0 T N ad D cy nL Q nx ls (.inr (.inr z) :: st) μ) : q_SW p l e R s m args below meth c A H0 T N ad D cy nL Q pc ls st μ := by
  intro hn H locs la hP hD hS hl
  have hv := q_get hl hv
  have K := K hn H locs la hP hD hS hl
  rw [List.map_cons, q_refv h0] at K
  rw [q_refv h0] at hv
  rcases hd with ⟨f, hf, hd, rfl⟩ | ⟨hd, rfl⟩
  · exact lv_aload_n F.1 F.2.1 hd hf hv K
  · exact lv_aload F.1 F.2.1 hd hv K
theorem q_storeI (F : q_Fix p s m args meth c T N D cy own cc) {k : Nat} (hk : k < nL) (hd : (∃ f : Fin 4, (f : Nat) = k ∧ decode cc pc = .ok (.istore_n f, 1) ∧ nx = pc + 1) ∨ (decode cc pc = .ok (.istore k, 2) ∧ nx = pc + 2)) {z : Int}
    (K : q_SW p l e R s m args below meth c A H0 T N ad D cy nL Q nx (q_l1 ls k (.inl z)) st μ) : q_SW p l e R s m args below meth c A H0 T N ad D cy nL Q pc ls (.inl z :: st) μ := by
  intro hn H locs la hP hD hS hl
  have K := fun la' h => K ((q_l1n ls k (.inl z)).trans hn) H locs la' hP hD hS (q_put1 h)
  rcases hd with ⟨f, hf, hd, rfl⟩ | ⟨hd, rfl⟩
  · exact lv_istore_n F.1 F.2.1 hd hf hl hk rfl K
  · exact lv_istore F.1 F.2.1 hd hl hk rfl K
theorem q_storeA (F : q_Fix p s m args meth c T N D cy own cc) {k : Nat} (hk : k < nL) (hd : (∃ f : Fin 4, (f : Nat) = k ∧ decode cc pc = .ok (.astore_n f, 1) ∧ nx = pc + 1) ∨ (decode cc pc = .ok (.astore k, 2) ∧ nx = pc + 2)) {z : Int} (h0 : 0 ≤ z)
    (K : q_SW p l e R s m args below meth c A H0 T N ad D cy nL Q nx (q_l1 ls k (.inr (.inr z))) st μ) : q_SW p l e R s m args below meth c A H0 T N ad D cy nL Q pc ls (.inr (.inr z) :: st) μ := by
  intro hn H locs la hP hD hS hl
  have K := fun la' h => K ((q_l1n ls k (.inr (.inr z))).trans hn) H locs la' hP hD hS (q_put1 h)
  rw [q_refv h0] at K
  rw [List.map_cons, q_refv h0]
  rcases hd with ⟨f, hf, hd, rfl⟩ | ⟨hd, rfl⟩
  · exact lv_astore_n F.1 F.2.1 hd hf hl hk rfl K
  · exact lv_astore F.1 F.2.1 hd hl hk rfl K
theorem q_storeL (F : q_Fix p s m args meth c T N D cy own cc) {k : Nat} (hk : k + 1 < nL) (hd : (∃ f : Fin 4, (f : Nat) = k ∧ decode cc pc = .ok (.lstore_n f, 1) ∧ nx = pc + 1) ∨ (decode cc pc = .ok (.lstore k, 2) ∧ nx = pc + 2)) {z : Int}
    (K : q_SW p l e R s m args below meth c A H0 T N ad D cy nL Q nx (q_l2 ls k (.inr (.inl z))) st μ) : q_SW p l e R s m args below meth c A H0 T N ad D cy nL Q pc ls (.inr (.inl z) :: st) μ := by
  intro hn H locs la hP hD hS hl
  have K := fun la' h => K ((q_l2n ls k (.inr (.inl z))).trans hn) H locs la' hP hD hS (q_put2 h)
  rcases hd with ⟨f, hf, hd, rfl⟩ | ⟨hd, rfl⟩
  · exact lv_lstore_n F.1 F.2.1 hd hf hl hk rfl K
  · exact lv_lstore F.1 F.2.1 hd hl hk rfl K
theorem q_iinc (F : q_Fix p s m args meth c T N D cy own cc) {k : Nat} {v : Int} (hk : k < nL) (hd : decode cc pc = .ok (.iinc k v, 3)) {z : Int} (hv : q_lg ls k = some (.inl z))
    (K : q_SW p l e R s m args below meth c A H0 T N ad D cy nL Q (pc + 3) (q_l1 ls k (.inl (z + v))) st μ) : q_SW p l e R s m args below meth c A H0 T N ad D cy nL Q pc ls st μ := by
  intro hn H locs la hP hD hS hl
  have K := fun la' h => K ((q_l1n ls k (.inl (z + v))).trans hn) H locs la' hP hD hS (q_put1 h)
  obtain ⟨k9, hk9⟩ := List.getElem?_of_mem (q_mem (ad := ad) hv)
  exact lv_iinc F.1 F.2.1 hd hl hk9 (Int32.ofInt_add z v).symm hk rfl K
theorem q_fget (F : q_Fix p s m args meth c T N D cy own cc) {fl : Nat → Nat × Nat} {is : List Nat} (hf : q_fok own fl is) {i : Nat} (hi : i ∈ is) (hd : decode cc pc = .ok (.getfield i, 3)) {a : Int}
    (K : q_fd (T a) (fl i).1 (fl i).2 (fun sk => q_SW p l e R s m args below meth c A H0 T N ad D cy nL Q (pc + 3) ls (q_sv μ a (fl i).2 sk :: st) μ)) : q_SW p l e R s m args below meth c A H0 T N ad D cy nL Q pc ls (.inr (.inr a) :: st) μ := by
  intro hn H locs la hP hD hS hl
  obtain ⟨hx, hb, hown, hts, hK, hlk, hN, hT, hTl⟩ := F
  unfold q_fd at K
  cases hTa : T a with
  | none => rw [hTa] at K; exact K.elim
  | some sh =>
    obtain ⟨hm, h0⟩ := hT a sh hTa
    rw [hTa] at K
    rcases sh with ⟨cj, ks⟩ | x
    · obtain ⟨hc, K⟩ := K
      subst hc
      obtain ⟨q, h1, h2, h3, h4⟩ := hf i hi
      cases hk : ks[(fl i).2]? with
      | none => rw [hk] at K; exact K.elim
      | some sk =>
        rw [hk] at K
        obtain ⟨k9, hk9, hw9⟩ := q_wsg (T := T) (ad := ad) (cy := cy) (μ := μ) hm
        rw [hTa] at hw9
        rw [List.map_cons, q_refv h0]
        have hin := (q_cls (List.mem_of_getElem? h1)).1
        exact va_get (ci := (fl i).1) hx hb hts hin hown hK hP k9 hw9 h1 (fl i).2 h2 (hts _ h4) (fun _ h9 => h9) (by rw [List.getElem?_mapIdx, hk]; rfl) hd (K hn H locs la hP hD hS hl)
    · exact K.elim
theorem q_kty {ad : Int → Nat} {sk : QK} {v : QV} {ty : FieldType} {f : Int → Prop} (h : q_kt sk ty) (hp : q_pf sk v f) : narrow ty (q_cv ad v) = q_cv ad v ∧ fits ty (q_cv ad v) = true ∧ ∃ z, f z ∧ ∀ (μ : QM) (a : Int) (k : Nat), q_sv (q_up μ a k z) a k sk = v := by
  unfold q_pf at hp
  split at hp
  · cases h
    exact ⟨rfl, rfl, _, hp, fun μ a k => by simp [q_sv, q_up]⟩
  · cases h
    exact ⟨rfl, rfl, _, hp, fun μ a k => by simp [q_sv, q_up]⟩
  · cases h
    obtain ⟨h1, hp⟩ := hp
    refine ⟨?_, ?_, _, hp, fun μ a k => by simp [q_sv, q_up]⟩
    · rcases h1 with rfl | rfl
      · show narrow .boolean (.int (Int32.ofInt 0)) = .int (Int32.ofInt 0); decide
      · show narrow .boolean (.int (Int32.ofInt 1)) = .int (Int32.ofInt 1); decide
    · rcases h1 with rfl | rfl
      · show fits .boolean (.int (Int32.ofInt 0)) = true; decide
      · show fits .boolean (.int (Int32.ofInt 1)) = true; decide
  · refine ⟨?_, ?_, _, hp, fun μ a k => by simp [q_sv, q_up]⟩
    · rcases h with ⟨n, rfl⟩ | ⟨t, rfl⟩
      · show narrow _ (va_rf (q_rf ad _)) = va_rf (q_rf ad _)
        generalize q_rf ad _ = x
        cases x <;> rfl
      · show narrow _ (va_rf (q_rf ad _)) = va_rf (q_rf ad _)
        generalize q_rf ad _ = x
        cases x <;> rfl
    · rcases h with ⟨n, rfl⟩ | ⟨t, rfl⟩
      · show fits _ (va_rf (q_rf ad _)) = _
        unfold q_rf; split <;> rfl
      · show fits _ (va_rf (q_rf ad _)) = _
        unfold q_rf; split <;> rfl
  · exact hp.elim
theorem q_pfz {sk : QK} {v : QV} {f g : Int → Prop} (hp : q_pf sk v f) (h : ∀ z, f z → g z) : q_pf sk v g := by
  unfold q_pf at hp ⊢
  split at hp
  · exact h _ hp
  · exact h _ hp
  · exact ⟨hp.1, h _ hp.2⟩
  · exact h _ hp
  · exact hp.elim
theorem q_svo {μ : QM} {a z : Int} {k j : Nat} (sk : QK) (h : j ≠ k) : q_sv (q_up μ a k z) a j sk = q_sv μ a j sk := by
  have e : q_up μ a k z a j = μ a j := by
    simp only [q_up]
    rw [if_neg]
    intro q
    exact h (by have := q.2; omega)
  unfold q_sv
  split <;> simp only [e]
theorem q_fput (F : q_Fix p s m args meth c T N D cy own cc) {fl : Nat → Nat × Nat} {is ip : List Nat} (hf : q_fok own fl is) (hg : q_fokP own fl ip) {i : Nat} (hi : i ∈ is) (hj : i ∈ ip) (hd : decode cc pc = .ok (.putfield i, 3)) {a : Int} {v : QV}
    (K : q_fd (T a) (fl i).1 (fl i).2 (fun sk => q_pf sk v (fun z => q_SW p l e R s m args below meth c A H0 T N ad D cy nL Q (pc + 3) ls st (q_up μ a (fl i).2 z)))) : q_SW p l e R s m args below meth c A H0 T N ad D cy nL Q pc ls (v :: .inr (.inr a) :: st) μ := by
  intro hn H locs la hP hD hS hl
  obtain ⟨hx, hb, hown, hts, hK, hlk, hN, hT, hTl⟩ := F
  unfold q_fd at K
  cases hTa : T a with
  | none => rw [hTa] at K; exact K.elim
  | some sh =>
    obtain ⟨hm, h0⟩ := hT a sh hTa
    rw [hTa] at K
    rcases sh with ⟨cj, ks⟩ | x
    · obtain ⟨hc, K⟩ := K
      subst hc
      obtain ⟨q, h1, h2, h3, h4⟩ := hf i hi
      obtain ⟨q', g1, g2⟩ := hg i hj
      have eq' : q' = q := Option.some.inj (g1.symm.trans h1)
      subst eq'
      cases hk : ks[(fl i).2]? with
      | none => rw [hk] at K; exact K.elim
      | some sk =>
        rw [hk] at K
        obtain ⟨hlen, hty⟩ := hTl a _ ks _ hTa h1
        obtain ⟨ty, hpt, hkt⟩ := hty _ sk hk
        obtain ⟨n1, n2, z, hz, hsv⟩ := q_kty (ad := ad) hkt K
        obtain ⟨k9, hk9, hw9⟩ := q_wsg (T := T) (ad := ad) (cy := cy) (μ := μ) hm
        rw [hTa] at hw9
        rw [List.map_cons, List.map_cons, q_refv h0]
        obtain ⟨hin, ty0, hty0, hnm⟩ := q_cls (List.mem_of_getElem? h1)
        have hkl : (fl i).2 < ks.length := by rw [hlen]; exact h2
        have hset : (q_ws T N ad cy μ).set k9 (ad a, .inr ((fl i).1, (ks.mapIdx (fun k sk => q_cv ad (q_sv μ a k sk))).set (fl i).2 (q_cv ad v))) = q_ws T N ad cy (q_up μ a (fl i).2 z) := by
          refine q_wss hN hk9 ?_ (fun b hb9 => q_upo _ hb9)
          rw [hTa]
          show Sum.inr _ = Sum.inr _
          congr 2
          refine List.ext_getElem? fun j => ?_
          by_cases hj9 : j = (fl i).2
          · subst hj9
            rw [List.getElem?_set_self (by rw [List.length_mapIdx]; exact hkl), List.getElem?_mapIdx, hk]
            show some (q_cv ad v) = some (q_cv ad (q_sv (q_up μ a (fl i).2 z) a (fl i).2 sk))
            rw [hsv]
          · rw [List.getElem?_set_ne (Ne.symm hj9), List.getElem?_mapIdx, List.getElem?_mapIdx]
            cases hb9 : ks[j]? with
            | none => rfl
            | some sk9 =>
              show some (q_cv ad (q_sv μ a j sk9)) = some (q_cv ad (q_sv (q_up μ a (fl i).2 z) a j sk9))
              rw [q_svo sk9 hj9]
        refine va_put (ci := (fl i).1) hx hb hts hin ty0 hty0 hnm hown hK hP hD hS k9 hw9 h1 (fl i).2 h2 (hts _ h4) (fun _ h9 => h9) g2 hpt n1 n2 (by rw [List.length_mapIdx]; exact hkl) hd (fun H1 locs1 hP1 hD1 hS1 => ?_)
        rw [hset] at hP1 hD1
        exact hz hn H1 locs1 la hP1 hD1 hS1 hl
    · exact K.elim
theorem q_cell (F : q_Fix p s m args meth c T N D cy own cc) {a : Int} {sh : QS} (hTa : T a = some sh) : 0 ≤ a ∧ ∃ k : Nat, N[k]? = some a ∧ ∀ μ : QM, (q_ws T N ad cy μ)[k]? = some (ad a, q_ent ad cy μ a (some sh)) := by
  obtain ⟨hx, hb, hown, hts, hK, hlk, hN, hT, hTl⟩ := F
  obtain ⟨hm, h0⟩ := hT a sh hTa
  obtain ⟨k, hk⟩ := List.getElem?_of_mem hm
  exact ⟨h0, k, hk, fun μ => by unfold q_ws; rw [List.getElem?_map, hk]; show some (ad a, q_ent ad cy μ a (T a)) = _; rw [hTa]⟩
theorem q_alen (F : q_Fix p s m args meth c T N D cy own cc) (hd : decode cc pc = .ok (.arraylength, 1)) {a : Int}
    (K : q_al (T a) (fun n => q_SW p l e R s m args below meth c A H0 T N ad D cy nL Q (pc + 1) ls (.inl n :: st) μ)) : q_SW p l e R s m args below meth c A H0 T N ad D cy nL Q pc ls (.inr (.inr a) :: st) μ := by
  intro hn H locs la hP hD hS hl
  unfold q_al at K
  cases hTa : T a with
  | none => rw [hTa] at K; exact K.elim
  | some sh =>
    rw [hTa] at K
    rcases sh with x | ⟨t, n⟩
    · exact K.elim
    · obtain ⟨h0, k, -, hk⟩ := q_cell (ad := ad) F hTa
      obtain ⟨hx, hb, hown, hts, hK, hlk, hN, hT, hTl⟩ := F
      rw [List.map_cons, q_refv h0]
      obtain ⟨h5, K⟩ := K
      have K := K hn H locs la hP hD hS hl
      obtain ⟨t0, ty, ht⟩ : ∃ (t0 : Nat) (ty : FieldType), (q_tys cy)[t0]? = some (cy (q_akd t), ty) := by
        have : q_akd t = 0 ∨ q_akd t = 1 ∨ q_akd t = 2 ∨ q_akd t = 3 ∨ q_akd t = 4 ∨ q_akd t = 5 := by omega
        rcases this with h | h | h | h | h | h <;> rw [h]
        · exact ⟨0, _, rfl⟩
        · exact ⟨1, _, rfl⟩
        · exact ⟨2, _, rfl⟩
        · exact ⟨3, _, rfl⟩
        · exact ⟨4, _, rfl⟩
        · exact ⟨5, _, rfl⟩
      exact va_alen hx hb hK hP k t0 (hk μ) ht (Int32.ofInt_eq_ofNat).symm hd K
theorem q_aload (F : q_Fix p s m args meth c T N D cy own cc) {t : Nat} (hd : (t = 0 ∧ decode cc pc = .ok (.iaload, 1)) ∨ (t = 2 ∧ decode cc pc = .ok (.baload, 1)) ∨ (t = 3 ∧ decode cc pc = .ok (.caload, 1))) {a i : Int}
    (K : q_ar (T a) t i (q_SW p l e R s m args below meth c A H0 T N ad D cy nL Q (pc + 1) ls (.inl (μ a i) :: st) μ)) : q_SW p l e R s m args below meth c A H0 T N ad D cy nL Q pc ls (.inl i :: .inr (.inr a) :: st) μ := by
  intro hn H locs la hP hD hS hl
  unfold q_ar at K
  split at K
  · rename_i u n hTa
    obtain ⟨rfl, h1, h2, h3, K⟩ := K
    obtain ⟨h0, k, -, hk⟩ := q_cell (ad := ad) F hTa
    obtain ⟨hx, hb, hown, hts, hK, hlk, hN, hT, hTl⟩ := F
    have K := K hn H locs la hP hD hS hl
    have hin := q_in h1 h2 h3
    rw [List.map_cons, List.map_cons, q_refv h0]
    have ei : ((Int32.ofInt i).toNatClampNeg : Int) = i := by rw [q_cl h2 (by omega)]; exact q_nat h2
    rcases hd with ⟨rfl, hd⟩ | ⟨rfl, hd⟩ | ⟨rfl, hd⟩
    · refine va_iald (f := fun j => Int32.ofInt (μ a j)) hx hb hK hP k 0 (hk μ) rfl hin hd ?_
      show W _ _ _ _ _ _ _ _ _ _ _ _ _ _ _ (F0 _ _ _ (.int (Int32.ofInt (μ a ((Int32.ofInt i).toNatClampNeg : Int))) :: _))
      rw [ei]
      exact K
    · refine va_zald (f := fun j => Int32.ofInt (μ a j)) hx hb hK hP k 2 (hk μ) rfl hin hd ?_
      show W _ _ _ _ _ _ _ _ _ _ _ _ _ _ _ (F0 _ _ _ (.int (Int32.ofInt (μ a ((Int32.ofInt i).toNatClampNeg : Int))) :: _))
      rw [ei]
      exact K
    · refine va_cald (f := fun j => Int32.ofInt (μ a j)) hx hb hK hP k 3 (hk μ) rfl hin hd ?_
      show W _ _ _ _ _ _ _ _ _ _ _ _ _ _ _ (F0 _ _ _ (.int (Int32.ofInt (μ a ((Int32.ofInt i).toNatClampNeg : Int))) :: _))
      rw [ei]
      exact K
  · exact K.elim
theorem q_aloadL (F : q_Fix p s m args meth c T N D cy own cc) (hd : decode cc pc = .ok (.laload, 1)) {a i : Int}
    (K : q_ar (T a) 1 i (q_SW p l e R s m args below meth c A H0 T N ad D cy nL Q (pc + 1) ls (.inr (.inl (μ a i)) :: st) μ)) : q_SW p l e R s m args below meth c A H0 T N ad D cy nL Q pc ls (.inl i :: .inr (.inr a) :: st) μ := by
  intro hn H locs la hP hD hS hl
  unfold q_ar at K
  split at K
  · rename_i u n hTa
    obtain ⟨rfl, h1, h2, h3, K⟩ := K
    obtain ⟨h0, k, -, hk⟩ := q_cell (ad := ad) F hTa
    obtain ⟨hx, hb, hown, hts, hK, hlk, hN, hT, hTl⟩ := F
    have K := K hn H locs la hP hD hS hl
    have hin := q_in h1 h2 h3
    rw [List.map_cons, List.map_cons, q_refv h0]
    have ei : ((Int32.ofInt i).toNatClampNeg : Int) = i := by rw [q_cl h2 (by omega)]; exact q_nat h2
    refine va_lald (f := fun j => Int64.ofInt (μ a j)) hx hb hK hP k 1 (hk μ) rfl hin hd ?_
    show W _ _ _ _ _ _ _ _ _ _ _ _ _ _ _ (F0 _ _ _ (.long (Int64.ofInt (μ a ((Int32.ofInt i).toNatClampNeg : Int))) :: _))
    rw [ei]
    exact K
  · exact K.elim
theorem q_aloadA (F : q_Fix p s m args meth c T N D cy own cc) (hd : decode cc pc = .ok (.aaload, 1)) {a i : Int}
    (K : q_aa (T a) i (fun b => 0 ≤ b ∧ q_SW p l e R s m args below meth c A H0 T N ad D cy nL Q (pc + 1) ls (.inr (.inr b) :: st) μ)) : q_SW p l e R s m args below meth c A H0 T N ad D cy nL Q pc ls (.inl i :: .inr (.inr a) :: st) μ := by
  intro hn H locs la hP hD hS hl
  unfold q_aa at K
  split at K
  · rename_i t b n hTa
    obtain ⟨ht, h1, h2, h3, hb0, K⟩ := K
    obtain ⟨h0, k, -, hk⟩ := q_cell (ad := ad) F hTa
    obtain ⟨hx, hb, hown, hts, hK, hlk, hN, hT, hTl⟩ := F
    have K := K hn H locs la hP hD hS hl
    have hin := q_in h1 h2 h3
    rw [List.map_cons, List.map_cons, q_refv h0]
    have ei : ((Int32.ofInt i).toNatClampNeg : Int) = i := by rw [q_cl h2 (by omega)]; exact q_nat h2
    have hlt : (Int32.ofInt i).toNatClampNeg < n := Nat.not_le.mp fun q => hin (Or.inr q)
    have hv : (arrV (cy t) n (fun j => va_rf (q_rf ad (b + (j : Int))))).slots[(Int32.ofInt i).toNatClampNeg]? = some (q_cv ad (.inr (.inr (b + i)))) := by
      rw [arrV_read _ _ hlt, ei]
      rfl
    have hc : H[ad a]? = some (arrV (cy t) n (fun j => va_rf (q_rf ad (b + (j : Int))))) := hP k _ (hk μ)
    rcases ht with rfl | rfl
    · exact W.aald (ty := .object RX4) hx hb hc ((hK.2 4 _ rfl).1 n _) rfl (fun q => by cases q) (by rw [arrV_size]; exact hin) hv rfl rfl hd K
    · exact W.aald (ty := .array .int) hx hb hc ((hK.2 5 _ rfl).1 n _) rfl (fun q => by cases q) (by rw [arrV_size]; exact hin) hv rfl rfl hd K
  · exact K.elim
theorem q_upI {i : Int} {x : Int32} {v : Int} (μ : QM) (a : Int) (hi : 0 ≤ i) (hx : x = Int32.ofInt v) : upd (fun (j : Nat) => Int32.ofInt (μ a j)) i.toNat x = fun (j : Nat) => Int32.ofInt (q_up μ a i v a (j : Int)) := by
  funext j
  by_cases h : j = i.toNat
  · subst h
    simp [upd, q_up, hx, q_nat hi]
  · have h2 : ¬ (j : Int) = i := fun q => h (by omega)
    simp [upd, q_up, h, h2]
theorem q_nz {v : Int} (h : v = 0 ∨ v = 1) : vp_nar .boolean (Int32.ofInt v) = Int32.ofInt v := by
  rcases h with rfl | rfl <;> decide
theorem q_nc {v : Int} (h0 : 0 ≤ v) (h1 : v < 65536) : vp_nar .char (Int32.ofInt v) = Int32.ofInt v := by
  rw [vp_nar_char, ← lg_i2c_nf]
  exact q_i2c h0 h1
theorem q_ast (F : q_Fix p s m args meth c T N D cy own cc) {t : Nat} {v : Int} (hd : (t = 0 ∧ decode cc pc = .ok (.iastore, 1)) ∨ ((v = 0 ∨ v = 1) ∧ t = 2 ∧ decode cc pc = .ok (.bastore, 1)) ∨ ((0 ≤ v ∧ v < 65536) ∧ t = 3 ∧ decode cc pc = .ok (.castore, 1))) {a i : Int}
    (K : q_ar (T a) t i (q_SW p l e R s m args below meth c A H0 T N ad D cy nL Q (pc + 1) ls st (q_up μ a i v))) : q_SW p l e R s m args below meth c A H0 T N ad D cy nL Q pc ls (.inl v :: .inl i :: .inr (.inr a) :: st) μ := by
  intro hn H locs la hP hD hS hl
  unfold q_ar at K
  split at K
  · rename_i u n hTa
    obtain ⟨rfl, h1, h2, h3, K⟩ := K
    obtain ⟨h0, k, hk9, hk⟩ := q_cell (ad := ad) F hTa
    obtain ⟨hx, hb, hown, hts, hK, hlk, hN, hT, hTl⟩ := F
    have K := fun H1 locs1 hP1 hD1 hS1 => K hn H1 locs1 la hP1 hD1 hS1 hl
    have hin := q_in h1 h2 h3
    rw [List.map_cons, List.map_cons, List.map_cons, q_refv h0]
    have ei : (Int32.ofInt i).toNatClampNeg = i.toNat := q_cl h2 (by omega)
    rcases hd with ⟨rfl, hd⟩ | ⟨hv, rfl, hd⟩ | ⟨hv, rfl, hd⟩
    · refine va_iast (f := fun j => Int32.ofInt (μ a j)) hx hb hK hP hD hS k 0 (hk μ) rfl hin hd (fun H1 locs1 hP1 hD1 hS1 => ?_)
      have hset := q_wss (T := T) (ad := ad) (cy := cy) (μ := μ) (μ' := q_up μ a i v) (e := .inl (cy 0, n, .inl (upd (fun j => Int32.ofInt (μ a j)) (Int32.ofInt i).toNatClampNeg (Int32.ofInt v)))) hN hk9 (by rw [hTa, ei, q_upI μ a h2 rfl]; rfl) (fun b hb9 => q_upo _ hb9)
      exact K H1 locs1 (by rw [← hset]; exact hP1) (by rw [← hset]; exact hD1) hS1
    · refine va_zast (f := fun j => Int32.ofInt (μ a j)) hx hb hK hP hD hS k 2 (hk μ) rfl hin hd (fun H1 locs1 hP1 hD1 hS1 => ?_)
      have hset := q_wss (T := T) (ad := ad) (cy := cy) (μ := μ) (μ' := q_up μ a i v) (e := .inl (cy 2, n, .inl (upd (fun j => Int32.ofInt (μ a j)) (Int32.ofInt i).toNatClampNeg (vp_nar .boolean (Int32.ofInt v))))) hN hk9 (by rw [hTa, ei, q_upI μ a h2 (q_nz hv)]; rfl) (fun b hb9 => q_upo _ hb9)
      exact K H1 locs1 (by rw [← hset]; exact hP1) (by rw [← hset]; exact hD1) hS1
    · refine va_cast (f := fun j => Int32.ofInt (μ a j)) hx hb hK hP hD hS k 3 (hk μ) rfl hin hd (fun H1 locs1 hP1 hD1 hS1 => ?_)
      have hset := q_wss (T := T) (ad := ad) (cy := cy) (μ := μ) (μ' := q_up μ a i v) (e := .inl (cy 3, n, .inl (upd (fun j => Int32.ofInt (μ a j)) (Int32.ofInt i).toNatClampNeg (vp_nar .char (Int32.ofInt v))))) hN hk9 (by rw [hTa, ei, q_upI μ a h2 (q_nc hv.1 hv.2)]; rfl) (fun b hb9 => q_upo _ hb9)
      exact K H1 locs1 (by rw [← hset]; exact hP1) (by rw [← hset]; exact hD1) hS1
  · exact K.elim
theorem q_upJ {i : Int} {v : Int} (μ : QM) (a : Int) (hi : 0 ≤ i) : vp_updL (fun (j : Nat) => Int64.ofInt (μ a j)) i.toNat (Int64.ofInt v) = fun (j : Nat) => Int64.ofInt (q_up μ a i v a (j : Int)) := by
  funext j
  by_cases h : j = i.toNat
  · subst h
    simp [vp_updL, q_up, q_nat hi]
  · have h2 : ¬ (j : Int) = i := fun q => h (by omega)
    simp [vp_updL, q_up, h, h2]
theorem q_astL (F : q_Fix p s m args meth c T N D cy own cc) {v : Int} (hd : decode cc pc = .ok (.lastore, 1)) {a i : Int}
    (K : q_ar (T a) 1 i (q_SW p l e R s m args below meth c A H0 T N ad D cy nL Q (pc + 1) ls st (q_up μ a i v))) : q_SW p l e R s m args below meth c A H0 T N ad D cy nL Q pc ls (.inr (.inl v) :: .inl i :: .inr (.inr a) :: st) μ := by
  intro hn H locs la hP hD hS hl
  unfold q_ar at K
  split at K
  · rename_i u n hTa
    obtain ⟨rfl, h1, h2, h3, K⟩ := K
    obtain ⟨h0, k, hk9, hk⟩ := q_cell (ad := ad) F hTa
    obtain ⟨hx, hb, hown, hts, hK, hlk, hN, hT, hTl⟩ := F
    have K := fun H1 locs1 hP1 hD1 hS1 => K hn H1 locs1 la hP1 hD1 hS1 hl
    have hin := q_in h1 h2 h3
    rw [List.map_cons, List.map_cons, List.map_cons, q_refv h0]
    have ei : (Int32.ofInt i).toNatClampNeg = i.toNat := q_cl h2 (by omega)
    refine va_last (f := fun j => Int64.ofInt (μ a j)) hx hb hK hP hD hS k 1 (hk μ) rfl hin hd (fun H1 locs1 hP1 hD1 hS1 => ?_)
    have hset := q_wss (T := T) (ad := ad) (cy := cy) (μ := μ) (μ' := q_up μ a i v) (e := .inl (cy 1, n, .inr (.inl (vp_updL (fun j => Int64.ofInt (μ a j)) (Int32.ofInt i).toNatClampNeg (Int64.ofInt v))))) hN hk9 (by rw [hTa, ei, q_upJ μ a h2]; rfl) (fun b hb9 => q_upo _ hb9)
    exact K H1 locs1 (by rw [← hset]; exact hP1) (by rw [← hset]; exact hD1) hS1
  · exact K.elim
theorem q_swS {a : Int} {g : Nat → Prop} : ∀ (L : List (Int × Nat)) (x : Int) (d : Nat), q_sw a g (L ++ [(x, d)]) → (∃ (i : Nat) (t : Nat), L[i]? = some (a, t) ∧ (∀ j q, j < i → L[j]? = some q → q.1 ≠ a) ∧ g t) ∨ ((∀ q ∈ L, q.1 ≠ a) ∧ g d)
  | [], x, d, h => Or.inr ⟨fun q hq => absurd hq List.not_mem_nil, h⟩
  | (v, t) :: L, x, d, h => by
    have h1 : (a = v → g t) ∧ (¬ a = v → q_sw a g (L ++ [(x, d)])) := by
      cases L with
      | nil => exact h
      | cons y L => exact h
    by_cases hv : a = v
    · subst hv
      exact Or.inl ⟨0, t, rfl, fun j q hj => by omega, h1.1 rfl⟩
    · rcases q_swS L x d (h1.2 hv) with ⟨i, t2, e1, e2, e3⟩ | ⟨e1, e2⟩
      · refine Or.inl ⟨i + 1, t2, e1, fun j q hj hq => ?_, e3⟩
        cases j with
        | zero => cases hq; exact fun q => hv q.symm
        | succ j => exact e2 j q (by omega) hq
      · refine Or.inr ⟨fun q hq => ?_, e2⟩
        rcases List.mem_cons.mp hq with rfl | hq
        · exact fun q => hv q.symm
        · exact e1 q hq
end QS5
end
section
/-- what a contract says at the end -/
def q_Qc (T : Int → Option QS) (N : List Int) (ad : Int → Nat) (D : va_G) (cy : Nat → ClassId) (A : Nat → Prop) (Rt : Option QV → QM → Prop) : Array Value → State → Outcome → State → Prop := fun _ st oc t => (∃ (o : Option QV) (μ : QM), oc = .returned (o.map (q_cv ad)) ∧ Rt o μ ∧ va_P D vwCl (q_ws T N ad cy μ) t.heap) ∧ va_F A st t
def q_rto (rk : Nat) (r : Option FieldType) : Prop := match rk with
  | 0 => r = some .int
  | 1 => r = some .boolean
  | 2 => r = some .char
  | 3 => ∃ n, r = some (.object n)
  | _ => r = none
def q_ldk (own : String) (ld : Nat → QV) (lc : List Nat) : Prop := ∀ i ∈ lc, match ld i with
  | .inl z => Cond.constant own i (Int32.ofInt z) ∈ q_tb
  | .inr (.inl z) => Cond.constantLong own i (Int64.ofInt z) ∈ q_tb
  | _ => False
theorem q_tabS {pc : Nat} {tg : List (Int × Nat)} {d lo hi : Int} {offs : Array Int} {a : Int} {g : Nat → Prop} (ht : tg.map (fun q => (q.1, (q.2 : Int))) = ((List.range offs.size).map (fun (i : Nat) => (lo + (i : Int), (pc : Int) + offs.getD i 0))) ++ [((0 : Int), (pc : Int) + d)] ∧ (offs.size : Int) = hi - lo + 1) (h : q_sw a g tg) :
    (∃ (t : Nat) (off : Int), ¬ a < lo ∧ ¬ hi < a ∧ offs[(a - lo).toNat]? = some off ∧ (pc : Int) + off = (t : Int) ∧ g t) ∨ (∃ t : Nat, (a < lo ∨ hi < a) ∧ (pc : Int) + d = (t : Int) ∧ g t) := by
  obtain ⟨ht, hsz⟩ := ht
  obtain ⟨L, l2, rfl, h1, h2⟩ := List.map_eq_append_iff.mp ht
  cases l2 with
  | nil => cases h2
  | cons q l3 =>
    cases l3 with
    | cons q2 l4 => exact absurd (congrArg List.length h2) (by simp)
    | nil =>
      obtain ⟨x, dd⟩ := q
      have h3 : ((dd : Nat) : Int) = (pc : Int) + d := congrArg Prod.snd (List.cons.inj h2).1
      rcases q_swS L x dd h with ⟨i, t, e1, -, e3⟩ | ⟨e1, e2⟩
      · have h4 : (L.map (fun q => (q.1, (q.2 : Int))))[i]? = some (a, (t : Int)) := by rw [List.getElem?_map, e1]; rfl
        rw [h1, List.getElem?_map] at h4
        cases hi9 : (List.range offs.size)[i]? with
        | none => rw [hi9] at h4; cases h4
        | some j =>
          rw [hi9] at h4
          obtain ⟨hj, ej⟩ := List.getElem?_eq_some_iff.mp hi9
          rw [List.getElem_range] at ej
          subst ej
          rw [List.length_range] at hj
          have h5 : (lo + (i : Int), (pc : Int) + offs.getD i 0) = (a, (t : Int)) := Option.some.inj h4
          have h6 : lo + (i : Int) = a := congrArg Prod.fst h5
          have h7 : (pc : Int) + offs.getD i 0 = (t : Int) := congrArg Prod.snd h5
          refine Or.inl ⟨t, offs.getD i 0, by omega, by omega, ?_, h7, e3⟩
          have h8 : (a - lo).toNat = i := by omega
          rw [h8]
          simp [Array.getD, hj]
      · refine Or.inr ⟨dd, ?_, h3.symm, e2⟩
        by_cases c1 : a < lo
        · exact Or.inl c1
        · refine Or.inr (Int.not_le.mp fun c2 => ?_)
          have hj : (a - lo).toNat < offs.size := by omega
          have h4 : (L.map (fun q => (q.1, (q.2 : Int))))[(a - lo).toNat]? = some (lo + ((a - lo).toNat : Int), (pc : Int) + offs.getD (a - lo).toNat 0) := by
            rw [h1, List.getElem?_map, List.getElem?_range hj]
            rfl
          rw [List.getElem?_map] at h4
          cases hq : L[(a - lo).toNat]? with
          | none => rw [hq] at h4; cases h4
          | some q =>
            rw [hq] at h4
            have h5 : q.1 = lo + ((a - lo).toNat : Int) := congrArg Prod.fst (Option.some.inj h4)
            exact e1 q (List.mem_of_getElem? hq) (by omega)
theorem q_lkS {pc : Nat} {d : Int} {a : Int} {g : Nat → Prop} : ∀ (ps : List (Int × Int)) (tg : List (Int × Nat)), tg.map (fun q => (q.1, (q.2 : Int))) = ps.map (fun q => (q.1, (pc : Int) + q.2)) ++ [((0 : Int), (pc : Int) + d)] → q_sw a g tg → ∃ (t : Nat) (off : Int), Op.lookupswitch.offset ps d a = off ∧ (pc : Int) + off = (t : Int) ∧ g t
  | [], tg, ht, h => by
    cases tg with
    | nil => cases ht
    | cons q l3 =>
      cases l3 with
      | cons q2 l4 => exact absurd (congrArg List.length ht) (by simp)
      | nil =>
        obtain ⟨x, dd⟩ := q
        have h3 : ((dd : Nat) : Int) = (pc : Int) + d := congrArg Prod.snd (List.cons.inj ht).1
        exact ⟨dd, d, rfl, h3.symm, h⟩
  | (v, o) :: ps, tg, ht, h => by
    cases tg with
    | nil => cases ht
    | cons q l3 =>
      obtain ⟨x, dd⟩ := q
      have h1 := List.cons.inj ht
      have h2 : x = v := congrArg Prod.fst h1.1
      have h3 : ((dd : Nat) : Int) = (pc : Int) + o := congrArg Prod.snd h1.1
      subst h2
      have h4 : (a = x → g dd) ∧ (¬ a = x → q_sw a g l3) := by
        cases l3 with
        | nil => exact absurd (congrArg List.length h1.2) (by simp)
        | cons y L => exact h
      by_cases c : a = x
      · refine ⟨dd, o, ?_, h3.symm, h4.1 c⟩
        rw [Op.lookupswitch.offset_cons, if_pos c.symm]
      · obtain ⟨t, off, e1, e2, e3⟩ := q_lkS ps l3 h1.2 (h4.2 c)
        refine ⟨t, off, ?_, e2, e3⟩
        rw [Op.lookupswitch.offset_cons, if_neg (fun q => c q.symm)]
        exact e1
section QS6
variable {p : Program} {l : Launch} {e : Env} {R : Room} {s : State} {m : MethodId} {args : Array Value} {below : List Frame} {meth : Method} {c : Code} {A : Nat → Prop} {T : Int → Option QS} {N : List Int} {ad : Int → Nat} {D : va_G} {cy : Nat → ClassId} {nL : Nat} {own : String} {cc : ByteArray}
variable {fl : Nat → Nat × Nat} {ld : Nat → QV} {Γ : Nat → Nat × QP} {rk : Nat} {Rt : Option QV → QM → Prop} {u : QU}
set_option maxHeartbeats 4000000 in
theorem q_stpS (F : q_Fix p s m args meth c T N D cy own cc) (hf : q_fok own fl u.1) (hg : q_fokP own fl u.2.1) (hld : q_ldk own ld u.2.2.1) (hr : q_rto rk meth.sig.returnType)
    (hstr : ∀ i ∈ u.2.2.2.1, ∀ (pc : Nat) (ls : QL) (st : List QV) (μ : QM), decode cc pc = .ok (.ldc i, 2) → q_SW p l e R s m args below meth c A s.heap T N ad D cy nL (MQ below (q_Qc T N ad D cy A Rt) args s 0 0 A) (pc + 2) ls (ld i :: st) μ → q_SW p l e R s m args below meth c A s.heap T N ad D cy nL (MQ below (q_Qc T N ad D cy A Rt) args s 0 0 A) pc ls st μ)
    (hcV : ∀ i ∈ u.2.2.2.2.1, ∀ (pc : Nat) (ls : QL) (st : List QV) (μ : QM) (K : Option QV → QM → Prop), decode cc pc = .ok (.invokevirtual i, 3) → (Γ i).1 ≤ st.length → q_cats (st.drop (Γ i).1) ≤ 8 → (Γ i).2 (st.take (Γ i).1) μ K → (∀ o μ', K o μ' → q_SW p l e R s m args below meth c A s.heap T N ad D cy nL (MQ below (q_Qc T N ad D cy A Rt) args s 0 0 A) (pc + 3) ls (o.toList ++ st.drop (Γ i).1) μ') → q_SW p l e R s m args below meth c A s.heap T N ad D cy nL (MQ below (q_Qc T N ad D cy A Rt) args s 0 0 A) pc ls st μ)
    (hcS : ∀ i ∈ u.2.2.2.2.2.1, ∀ (pc : Nat) (ls : QL) (st : List QV) (μ : QM) (K : Option QV → QM → Prop), decode cc pc = .ok (.invokestatic i, 3) → (Γ i).1 ≤ st.length → q_cats (st.drop (Γ i).1) ≤ 8 → (Γ i).2 (st.take (Γ i).1) μ K → (∀ o μ', K o μ' → q_SW p l e R s m args below meth c A s.heap T N ad D cy nL (MQ below (q_Qc T N ad D cy A Rt) args s 0 0 A) (pc + 3) ls (o.toList ++ st.drop (Γ i).1) μ') → q_SW p l e R s m args below meth c A s.heap T N ad D cy nL (MQ below (q_Qc T N ad D cy A Rt) args s 0 0 A) pc ls st μ)
    (hcI : ∀ i ∈ u.2.2.2.2.2.2, ∀ (pc : Nat) (ls : QL) (st : List QV) (μ : QM) (K : Option QV → QM → Prop), decode cc pc = .ok (.invokespecial i, 3) → (Γ i).1 ≤ st.length → q_cats (st.drop (Γ i).1) ≤ 8 → (Γ i).2 (st.take (Γ i).1) μ K → (∀ o μ', K o μ' → q_SW p l e R s m args below meth c A s.heap T N ad D cy nL (MQ below (q_Qc T N ad D cy A Rt) args s 0 0 A) (pc + 3) ls (o.toList ++ st.drop (Γ i).1) μ') → q_SW p l e R s m args below meth c A s.heap T N ad D cy nL (MQ below (q_Qc T N ad D cy A Rt) args s 0 0 A) pc ls st μ)
    (go : List QE → Nat → QL → List QV → QM → Prop) (hgo : ∀ (b : List QE) (pc : Nat) (ls : QL) (st : List QV) (μ : QM), q_ok cc nL u pc b = true → go b pc ls st μ → q_SW p l e R s m args below meth c A s.heap T N ad D cy nL (MQ below (q_Qc T N ad D cy A Rt) args s 0 0 A) pc ls st μ)
    (pc : Nat) (ins : Instr) (nx : Nat) (tg : List (Int × Nat)) (r : List QE) (ls : QL) (st : List QV) (μ : QM) (hok : q_ok cc nL u pc ((ins, nx, tg) :: r) = true) (h : q_stp fl ld Γ T rk Rt go ins nx tg r ls st μ) :
    q_SW p l e R s m args below meth c A s.heap T N ad D cy nL (MQ below (q_Qc T N ad D cy A Rt) args s 0 0 A) pc ls st μ := by
  have hok' : q_dec cc pc nx ins = true ∧ q_sto nL ins = true ∧ q_tgt pc tg ins = true ∧ q_use u ins = true ∧ q_ok cc nL u nx r = true := by
    simp only [q_ok, Bool.and_eq_true] at hok
    exact ⟨hok.1.1.1.1, hok.1.1.1.2, hok.1.1.2, hok.1.2, hok.2⟩
  obtain ⟨hdec, hsto, htgt, huse, hr9⟩ := hok'
  clear hok
  have hx := F.1
  have hb := F.2.1
  have hown := F.2.2.1
  have hts := F.2.2.2.1
  have hlocks := F.2.2.2.2.2.1
  unfold q_stp at h
  split at h
  · obtain ⟨hd, rfl⟩ : decode cc pc = .ok (.iconst _, 1) ∧ nx = pc + 1 := of_decide_eq_true hdec
    intro hn H locs la hP hD hS hl
    exact lv_iconst hx hb hd rfl (hgo _ _ _ _ _ hr9 h hn H locs la hP hD hS hl)
  · obtain ⟨hd, rfl⟩ : decode cc pc = .ok (.bipush _, 2) ∧ nx = pc + 2 := of_decide_eq_true hdec
    intro hn H locs la hP hD hS hl
    exact lv_bipush hx hb hd (q_bip h.1) (hgo _ _ _ _ _ hr9 h.2 hn H locs la hP hD hS hl)
  · obtain ⟨hd, rfl⟩ : decode cc pc = .ok (.sipush _, 3) ∧ nx = pc + 3 := of_decide_eq_true hdec
    intro hn H locs la hP hD hS hl
    exact lv_sipush hx hb hd (q_sip h.1) (hgo _ _ _ _ _ hr9 h.2 hn H locs la hP hD hS hl)
  · obtain ⟨hd, rfl⟩ : decode cc pc = .ok (.lconst _, 1) ∧ nx = pc + 1 := of_decide_eq_true hdec
    intro hn H locs la hP hD hS hl
    exact lv_lconst hx hb hd (Int64.ofInt_eq_ofNat).symm (hgo _ _ _ _ _ hr9 h hn H locs la hP hD hS hl)
  · obtain ⟨hd, rfl⟩ : decode cc pc = .ok (.ldc _, 2) ∧ nx = pc + 2 := of_decide_eq_true hdec
    have hu := of_decide_eq_true huse
    rcases hu with hu | hu
    · have h2 := hld _ hu
      intro hn H locs la hP hD hS hl
      have K := hgo _ _ _ _ _ hr9 h.2 hn H locs la hP hD hS hl
      have h1 := h.1
      rcases hv : ld _ with z | z | z
      · rw [hv] at h2 K
        exact lv_ldc hx hb hown (hts _ h2) hd K
      · rw [hv] at h1
        exact absurd h1 (by simp [q_ct])
      · rw [hv] at h2
        exact h2.elim
    · exact hstr _ hu _ _ _ _ hd (hgo _ _ _ _ _ hr9 h.2)
  · obtain ⟨hd, rfl⟩ : decode cc pc = .ok (.ldc_w _, 3) ∧ nx = pc + 3 := of_decide_eq_true hdec
    have h2 := hld _ (of_decide_eq_true huse)
    unfold q_int at h
    split at h
    · rename_i z hz
      rw [Option.some.inj hz] at h2
      intro hn H locs la hP hD hS hl
      exact lv_ldcw hx hb hown (hts _ h2) hd (hgo _ _ _ _ _ hr9 h hn H locs la hP hD hS hl)
    · exact h.elim
  · obtain ⟨hd, rfl⟩ : decode cc pc = .ok (.ldc2_w _, 3) ∧ nx = pc + 3 := of_decide_eq_true hdec
    have h2 := hld _ (of_decide_eq_true huse)
    unfold q_lng at h
    split at h
    · rename_i z hz
      rw [Option.some.inj hz] at h2
      intro hn H locs la hP hD hS hl
      exact lv_ldc2 hx hb hown (hts _ h2) hd (hgo _ _ _ _ _ hr9 h hn H locs la hP hD hS hl)
    · exact h.elim
  · obtain ⟨hd, rfl⟩ : decode cc pc = .ok (.iload_n _, 1) ∧ nx = pc + 1 := of_decide_eq_true hdec
    unfold q_int at h
    split at h
    · rename_i z hz
      exact q_loadI F (Or.inl ⟨_, rfl, hd, rfl⟩) hz (hgo _ _ _ _ _ hr9 h)
    · exact h.elim
  · obtain ⟨hd, rfl⟩ : decode cc pc = .ok (.iload _, 2) ∧ nx = pc + 2 := of_decide_eq_true hdec
    unfold q_int at h
    split at h
    · rename_i z hz
      exact q_loadI F (Or.inr ⟨hd, rfl⟩) hz (hgo _ _ _ _ _ hr9 h)
    · exact h.elim
  · obtain ⟨hd, rfl⟩ : decode cc pc = .ok (.lload_n _, 1) ∧ nx = pc + 1 := of_decide_eq_true hdec
    unfold q_lng at h
    split at h
    · rename_i z hz
      exact q_loadL F (Or.inl ⟨_, rfl, hd, rfl⟩) hz (hgo _ _ _ _ _ hr9 h)
    · exact h.elim
  · obtain ⟨hd, rfl⟩ : decode cc pc = .ok (.lload _, 2) ∧ nx = pc + 2 := of_decide_eq_true hdec
    unfold q_lng at h
    split at h
    · rename_i z hz
      exact q_loadL F (Or.inr ⟨hd, rfl⟩) hz (hgo _ _ _ _ _ hr9 h)
    · exact h.elim
  · obtain ⟨hd, rfl⟩ : decode cc pc = .ok (.aload_n _, 1) ∧ nx = pc + 1 := of_decide_eq_true hdec
    unfold q_ref at h
    split at h
    · rename_i z hz
      exact q_loadA F (Or.inl ⟨_, rfl, hd, rfl⟩) h.1 hz (hgo _ _ _ _ _ hr9 h.2)
    · exact h.elim
  · obtain ⟨hd, rfl⟩ : decode cc pc = .ok (.aload _, 2) ∧ nx = pc + 2 := of_decide_eq_true hdec
    unfold q_ref at h
    split at h
    · rename_i z hz
      exact q_loadA F (Or.inr ⟨hd, rfl⟩) h.1 hz (hgo _ _ _ _ _ hr9 h.2)
    · exact h.elim
  · obtain ⟨hd, rfl⟩ : decode cc pc = .ok (.istore_n _, 1) ∧ nx = pc + 1 := of_decide_eq_true hdec
    exact q_storeI F (of_decide_eq_true hsto) (Or.inl ⟨_, rfl, hd, rfl⟩) (hgo _ _ _ _ _ hr9 h)
  · obtain ⟨hd, rfl⟩ : decode cc pc = .ok (.istore _, 2) ∧ nx = pc + 2 := of_decide_eq_true hdec
    exact q_storeI F (of_decide_eq_true hsto) (Or.inr ⟨hd, rfl⟩) (hgo _ _ _ _ _ hr9 h)
  · obtain ⟨hd, rfl⟩ : decode cc pc = .ok (.lstore_n _, 1) ∧ nx = pc + 1 := of_decide_eq_true hdec
    exact q_storeL F (of_decide_eq_true hsto) (Or.inl ⟨_, rfl, hd, rfl⟩) (hgo _ _ _ _ _ hr9 h)
  · obtain ⟨hd, rfl⟩ : decode cc pc = .ok (.lstore _, 2) ∧ nx = pc + 2 := of_decide_eq_true hdec
    exact q_storeL F (of_decide_eq_true hsto) (Or.inr ⟨hd, rfl⟩) (hgo _ _ _ _ _ hr9 h)
  · obtain ⟨hd, rfl⟩ : decode cc pc = .ok (.astore_n _, 1) ∧ nx = pc + 1 := of_decide_eq_true hdec
    exact q_storeA F (of_decide_eq_true hsto) (Or.inl ⟨_, rfl, hd, rfl⟩) h.1 (hgo _ _ _ _ _ hr9 h.2)
  · obtain ⟨hd, rfl⟩ : decode cc pc = .ok (.astore _, 2) ∧ nx = pc + 2 := of_decide_eq_true hdec
    exact q_storeA F (of_decide_eq_true hsto) (Or.inr ⟨hd, rfl⟩) h.1 (hgo _ _ _ _ _ hr9 h.2)
  · obtain ⟨hd, rfl⟩ : decode cc pc = .ok (.iinc _ _, 3) ∧ nx = pc + 3 := of_decide_eq_true hdec
    unfold q_int at h
    split at h
    · rename_i z hz
      exact q_iinc F (of_decide_eq_true hsto) hd hz (hgo _ _ _ _ _ hr9 h)
    · exact h.elim
  · obtain ⟨hd, rfl⟩ : decode cc pc = .ok (.iadd, 1) ∧ nx = pc + 1 := of_decide_eq_true hdec
    intro hn H locs la hP hD hS hl
    have K := hgo _ _ _ _ _ hr9 h hn H locs la hP hD hS hl
    simp only [List.map_cons, q_cv, Int32.ofInt_add] at K ⊢
    exact lv_iadd hx hb hd K
  · obtain ⟨hd, rfl⟩ : decode cc pc = .ok (.isub, 1) ∧ nx = pc + 1 := of_decide_eq_true hdec
    intro hn H locs la hP hD hS hl
    have K := hgo _ _ _ _ _ hr9 h hn H locs la hP hD hS hl
    simp only [List.map_cons, q_cv, Int32.ofInt_sub] at K ⊢
    exact lv_isub hx hb hd K
  · obtain ⟨hd, rfl⟩ : decode cc pc = .ok (.imul, 1) ∧ nx = pc + 1 := of_decide_eq_true hdec
    intro hn H locs la hP hD hS hl
    have K := hgo _ _ _ _ _ hr9 h hn H locs la hP hD hS hl
    simp only [List.map_cons, q_cv, Int32.ofInt_mul] at K ⊢
    exact lv_imul hx hb hd K
  · obtain ⟨hd, rfl⟩ : decode cc pc = .ok (.ineg, 1) ∧ nx = pc + 1 := of_decide_eq_true hdec
    intro hn H locs la hP hD hS hl
    have K := hgo _ _ _ _ _ hr9 h hn H locs la hP hD hS hl
    simp only [List.map_cons, q_cv, Int32.ofInt_neg] at K ⊢
    exact lv_ineg hx hb hd K
  · obtain ⟨hd, rfl⟩ : decode cc pc = .ok (.iand, 1) ∧ nx = pc + 1 := of_decide_eq_true hdec
    intro hn H locs la hP hD hS hl
    have K := hgo _ _ _ _ _ hr9 h hn H locs la hP hD hS hl
    simp only [List.map_cons, q_cv, q_and, Int32.ofInt_toInt] at K ⊢
    exact lv_iand hx hb hd K
  · obtain ⟨hd, rfl⟩ : decode cc pc = .ok (.ior, 1) ∧ nx = pc + 1 := of_decide_eq_true hdec
    intro hn H locs la hP hD hS hl
    have K := hgo _ _ _ _ _ hr9 h hn H locs la hP hD hS hl
    simp only [List.map_cons, q_cv, q_or, Int32.ofInt_toInt] at K ⊢
    exact lv_ior hx hb hd K
  · obtain ⟨hd, rfl⟩ : decode cc pc = .ok (.ixor, 1) ∧ nx = pc + 1 := of_decide_eq_true hdec
    intro hn H locs la hP hD hS hl
    have K := hgo _ _ _ _ _ hr9 h hn H locs la hP hD hS hl
    simp only [List.map_cons, q_cv, q_xor, Int32.ofInt_toInt] at K ⊢
    exact lv_ixor hx hb hd K
  · obtain ⟨hd, rfl⟩ : decode cc pc = .ok (.ishl, 1) ∧ nx = pc + 1 := of_decide_eq_true hdec
    intro hn H locs la hP hD hS hl
    have K := hgo _ _ _ _ _ hr9 h hn H locs la hP hD hS hl
    simp only [List.map_cons, q_cv, q_shl, Int32.ofInt_toInt] at K ⊢
    exact lv_ishl hx hb hd K
  · obtain ⟨hd, rfl⟩ : decode cc pc = .ok (.ishr, 1) ∧ nx = pc + 1 := of_decide_eq_true hdec
    intro hn H locs la hP hD hS hl
    have K := hgo _ _ _ _ _ hr9 h hn H locs la hP hD hS hl
    simp only [List.map_cons, q_cv, q_shr, Int32.ofInt_toInt] at K ⊢
    exact lv_ishr hx hb hd K
  · obtain ⟨hd, rfl⟩ : decode cc pc = .ok (.iushr, 1) ∧ nx = pc + 1 := of_decide_eq_true hdec
    intro hn H locs la hP hD hS hl
    have K := hgo _ _ _ _ _ hr9 h hn H locs la hP hD hS hl
    simp only [List.map_cons, q_cv, q_ush, Int32.ofInt_toInt] at K ⊢
    exact lv_iushr hx hb hd rfl K
  · obtain ⟨hd, rfl⟩ : decode cc pc = .ok (.idiv, 1) ∧ nx = pc + 1 := of_decide_eq_true hdec
    intro hn H locs la hP hD hS hl
    have K := hgo _ _ _ _ _ hr9 h.2 hn H locs la hP hD hS hl
    simp only [List.map_cons, q_cv] at K ⊢
    rw [← q_divS h.1] at K
    exact lv_idiv hx hb hd (by rw [q_eq0 ⟨by omega, by omega⟩]; omega) K
  · obtain ⟨hd, rfl⟩ : decode cc pc = .ok (.irem, 1) ∧ nx = pc + 1 := of_decide_eq_true hdec
    intro hn H locs la hP hD hS hl
    have K := hgo _ _ _ _ _ hr9 h.2 hn H locs la hP hD hS hl
    simp only [List.map_cons, q_cv] at K ⊢
    rw [← q_remS h.1] at K
    exact lv_irem hx hb hd (by rw [q_eq0 ⟨by omega, by omega⟩]; omega) K
  · obtain ⟨hd, rfl⟩ : decode cc pc = .ok (.ladd, 1) ∧ nx = pc + 1 := of_decide_eq_true hdec
    intro hn H locs la hP hD hS hl
    have K := hgo _ _ _ _ _ hr9 h hn H locs la hP hD hS hl
    simp only [List.map_cons, q_cv, Int64.ofInt_add] at K ⊢
    exact lv_ladd hx hb hd K
  · obtain ⟨hd, rfl⟩ : decode cc pc = .ok (.lsub, 1) ∧ nx = pc + 1 := of_decide_eq_true hdec
    intro hn H locs la hP hD hS hl
    have K := hgo _ _ _ _ _ hr9 h hn H locs la hP hD hS hl
    simp only [List.map_cons, q_cv, Int64.ofInt_sub] at K ⊢
    exact lv_lsub hx hb hd K
  · obtain ⟨hd, rfl⟩ : decode cc pc = .ok (.lmul, 1) ∧ nx = pc + 1 := of_decide_eq_true hdec
    intro hn H locs la hP hD hS hl
    have K := hgo _ _ _ _ _ hr9 h hn H locs la hP hD hS hl
    simp only [List.map_cons, q_cv, Int64.ofInt_mul] at K ⊢
    exact lv_lmul hx hb hd K
  · obtain ⟨hd, rfl⟩ : decode cc pc = .ok (.lcmp, 1) ∧ nx = pc + 1 := of_decide_eq_true hdec
    intro hn H locs la hP hD hS hl
    have K := hgo _ _ _ _ _ hr9 h.2 hn H locs la hP hD hS hl
    simp only [List.map_cons, q_cv] at K ⊢
    rw [← q_cmpS h.1.1 h.1.2] at K
    exact W.lcmp hx hb hd K
  · obtain ⟨hd, rfl⟩ : decode cc pc = .ok (.i2l, 1) ∧ nx = pc + 1 := of_decide_eq_true hdec
    intro hn H locs la hP hD hS hl
    exact lv_i2l hx hb hd (q_i2l h.1) (hgo _ _ _ _ _ hr9 h.2 hn H locs la hP hD hS hl)
  · obtain ⟨hd, rfl⟩ : decode cc pc = .ok (.l2i, 1) ∧ nx = pc + 1 := of_decide_eq_true hdec
    intro hn H locs la hP hD hS hl
    exact lv_l2i hx hb hd Int64.toInt32_ofInt (hgo _ _ _ _ _ hr9 h hn H locs la hP hD hS hl)
  · obtain ⟨hd, rfl⟩ : decode cc pc = .ok (.i2c, 1) ∧ nx = pc + 1 := of_decide_eq_true hdec
    intro hn H locs la hP hD hS hl
    exact lv_i2c hx hb hd (q_i2c h.1.1 h.1.2) (hgo _ _ _ _ _ hr9 h.2 hn H locs la hP hD hS hl)
  · obtain ⟨hd, rfl⟩ : decode cc pc = .ok (.dup, 1) ∧ nx = pc + 1 := of_decide_eq_true hdec
    intro hn H locs la hP hD hS hl
    exact lv_dup hx hb hd (by rw [q_ctv]; exact h.1) (hgo _ _ _ _ _ hr9 h.2 hn H locs la hP hD hS hl)
  · obtain ⟨hd, rfl⟩ : decode cc pc = .ok (.dup2, 1) ∧ nx = pc + 1 := of_decide_eq_true hdec
    intro hn H locs la hP hD hS hl
    exact lv_dup2_11 hx hb hd (by rw [q_ctv]; exact h.1.1) (by rw [q_ctv]; exact h.1.2) (hgo _ _ _ _ _ hr9 h.2 hn H locs la hP hD hS hl)
  · obtain ⟨hd, rfl⟩ : decode cc pc = .ok (.ifCond .eq _, 3) ∧ nx = pc + 3 := of_decide_eq_true hdec
    have ht := of_decide_eq_true htgt
    obtain ⟨⟨x9, t9⟩, rfl⟩ : ∃ q, tg = [q] := by
      cases tg with
      | nil => cases ht
      | cons q t =>
        cases t with
        | nil => exact ⟨q, rfl⟩
        | cons q2 t => exact absurd (congrArg List.length ht) (by simp)
    have ht : (t9 : Int) = (pc : Int) + _ := (List.cons.inj ht).1
    intro hn H locs la hP hD hS hl
    have hiff := q_eq0 h.1
    exact lv_if_eq hx hb hd ht.symm (fun c9 => hgo [] t9 _ _ _ rfl (h.2.1 (by rw [hiff] at c9; exact c9)) hn H locs la hP hD hS hl) (fun c9 => hgo _ _ _ _ _ hr9 (h.2.2 (by rw [hiff] at c9; exact c9)) hn H locs la hP hD hS hl)
  · obtain ⟨hd, rfl⟩ : decode cc pc = .ok (.ifCond .ne _, 3) ∧ nx = pc + 3 := of_decide_eq_true hdec
    have ht := of_decide_eq_true htgt
    obtain ⟨⟨x9, t9⟩, rfl⟩ : ∃ q, tg = [q] := by
      cases tg with
      | nil => cases ht
      | cons q t =>
        cases t with
        | nil => exact ⟨q, rfl⟩
        | cons q2 t => exact absurd (congrArg List.length ht) (by simp)
    have ht : (t9 : Int) = (pc : Int) + _ := (List.cons.inj ht).1
    intro hn H locs la hP hD hS hl
    have hiff := q_eq0 h.1
    exact lv_if_ne hx hb hd ht.symm (fun c9 => hgo [] t9 _ _ _ rfl (h.2.1 (by rw [hiff] at c9; exact c9)) hn H locs la hP hD hS hl) (fun c9 => hgo _ _ _ _ _ hr9 (h.2.2 (by rw [hiff] at c9; exact c9)) hn H locs la hP hD hS hl)
  · obtain ⟨hd, rfl⟩ : decode cc pc = .ok (.ifCond .lt _, 3) ∧ nx = pc + 3 := of_decide_eq_true hdec
    have ht := of_decide_eq_true htgt
    obtain ⟨⟨x9, t9⟩, rfl⟩ : ∃ q, tg = [q] := by
      cases tg with
      | nil => cases ht
      | cons q t =>
        cases t with
        | nil => exact ⟨q, rfl⟩
        | cons q2 t => exact absurd (congrArg List.length ht) (by simp)
    have ht : (t9 : Int) = (pc : Int) + _ := (List.cons.inj ht).1
    intro hn H locs la hP hD hS hl
    have hiff := q_lt0 h.1
    exact lv_if_lt hx hb hd ht.symm (fun c9 => hgo [] t9 _ _ _ rfl (h.2.1 (by rw [hiff] at c9; exact c9)) hn H locs la hP hD hS hl) (fun c9 => hgo _ _ _ _ _ hr9 (h.2.2 (by rw [hiff] at c9; exact c9)) hn H locs la hP hD hS hl)
  · obtain ⟨hd, rfl⟩ : decode cc pc = .ok (.ifCond .ge _, 3) ∧ nx = pc + 3 := of_decide_eq_true hdec
    have ht := of_decide_eq_true htgt
    obtain ⟨⟨x9, t9⟩, rfl⟩ : ∃ q, tg = [q] := by
      cases tg with
      | nil => cases ht
      | cons q t =>
        cases t with
        | nil => exact ⟨q, rfl⟩
        | cons q2 t => exact absurd (congrArg List.length ht) (by simp)
    have ht : (t9 : Int) = (pc : Int) + _ := (List.cons.inj ht).1
    intro hn H locs la hP hD hS hl
    have hiff := q_ge0 h.1
    exact lv_if_ge hx hb hd ht.symm (fun c9 => hgo [] t9 _ _ _ rfl (h.2.1 (by rw [hiff] at c9; exact c9)) hn H locs la hP hD hS hl) (fun c9 => hgo _ _ _ _ _ hr9 (h.2.2 (by rw [hiff] at c9; exact c9)) hn H locs la hP hD hS hl)
  · obtain ⟨hd, rfl⟩ : decode cc pc = .ok (.ifCond .gt _, 3) ∧ nx = pc + 3 := of_decide_eq_true hdec
    have ht := of_decide_eq_true htgt
    obtain ⟨⟨x9, t9⟩, rfl⟩ : ∃ q, tg = [q] := by
      cases tg with
      | nil => cases ht
      | cons q t =>
        cases t with
        | nil => exact ⟨q, rfl⟩
        | cons q2 t => exact absurd (congrArg List.length ht) (by simp)
    have ht : (t9 : Int) = (pc : Int) + _ := (List.cons.inj ht).1
    intro hn H locs la hP hD hS hl
    have hiff := q_gt0 h.1
    exact lv_if_gt hx hb hd ht.symm (fun c9 => hgo [] t9 _ _ _ rfl (h.2.1 (by rw [hiff] at c9; exact c9)) hn H locs la hP hD hS hl) (fun c9 => hgo _ _ _ _ _ hr9 (h.2.2 (by rw [hiff] at c9; exact c9)) hn H locs la hP hD hS hl)
  · obtain ⟨hd, rfl⟩ : decode cc pc = .ok (.ifCond .le _, 3) ∧ nx = pc + 3 := of_decide_eq_true hdec
    have ht := of_decide_eq_true htgt
    obtain ⟨⟨x9, t9⟩, rfl⟩ : ∃ q, tg = [q] := by
      cases tg with
      | nil => cases ht
      | cons q t =>
        cases t with
        | nil => exact ⟨q, rfl⟩
        | cons q2 t => exact absurd (congrArg List.length ht) (by simp)
    have ht : (t9 : Int) = (pc : Int) + _ := (List.cons.inj ht).1
    intro hn H locs la hP hD hS hl
    have hiff := q_le0 h.1
    exact lv_if_le hx hb hd ht.symm (fun c9 => hgo [] t9 _ _ _ rfl (h.2.1 (by rw [hiff] at c9; exact c9)) hn H locs la hP hD hS hl) (fun c9 => hgo _ _ _ _ _ hr9 (h.2.2 (by rw [hiff] at c9; exact c9)) hn H locs la hP hD hS hl)
  · obtain ⟨hd, rfl⟩ : decode cc pc = .ok (.if_icmp .eq _, 3) ∧ nx = pc + 3 := of_decide_eq_true hdec
    have ht := of_decide_eq_true htgt
    obtain ⟨⟨x9, t9⟩, rfl⟩ : ∃ q, tg = [q] := by
      cases tg with
      | nil => cases ht
      | cons q t =>
        cases t with
        | nil => exact ⟨q, rfl⟩
        | cons q2 t => exact absurd (congrArg List.length ht) (by simp)
    have ht : (t9 : Int) = (pc : Int) + _ := (List.cons.inj ht).1
    intro hn H locs la hP hD hS hl
    have hiff := q_eq h.1.1 h.1.2
    exact lv_icmp_eq hx hb hd ht.symm (fun c9 => hgo [] t9 _ _ _ rfl (h.2.1 (by first | exact hiff.mp c9 | (rw [hiff] at c9; exact c9))) hn H locs la hP hD hS hl) (fun c9 => hgo _ _ _ _ _ hr9 (h.2.2 (by first | exact hiff.mp c9 | (rw [hiff] at c9; exact c9))) hn H locs la hP hD hS hl)
  · obtain ⟨hd, rfl⟩ : decode cc pc = .ok (.if_icmp .ne _, 3) ∧ nx = pc + 3 := of_decide_eq_true hdec
    have ht := of_decide_eq_true htgt
    obtain ⟨⟨x9, t9⟩, rfl⟩ : ∃ q, tg = [q] := by
      cases tg with
      | nil => cases ht
      | cons q t =>
        cases t with
        | nil => exact ⟨q, rfl⟩
        | cons q2 t => exact absurd (congrArg List.length ht) (by simp)
    have ht : (t9 : Int) = (pc : Int) + _ := (List.cons.inj ht).1
    intro hn H locs la hP hD hS hl
    have hiff := q_eq h.1.1 h.1.2
    exact lv_icmp_ne hx hb hd ht.symm (fun c9 => hgo [] t9 _ _ _ rfl (h.2.1 (by first | exact hiff.mp c9 | (rw [hiff] at c9; exact c9))) hn H locs la hP hD hS hl) (fun c9 => hgo _ _ _ _ _ hr9 (h.2.2 (by first | exact hiff.mp c9 | (rw [hiff] at c9; exact c9))) hn H locs la hP hD hS hl)
  · obtain ⟨hd, rfl⟩ : decode cc pc = .ok (.if_icmp .lt _, 3) ∧ nx = pc + 3 := of_decide_eq_true hdec
    have ht := of_decide_eq_true htgt
    obtain ⟨⟨x9, t9⟩, rfl⟩ : ∃ q, tg = [q] := by
      cases tg with
      | nil => cases ht
      | cons q t =>
        cases t with
        | nil => exact ⟨q, rfl⟩
        | cons q2 t => exact absurd (congrArg List.length ht) (by simp)
    have ht : (t9 : Int) = (pc : Int) + _ := (List.cons.inj ht).1
    intro hn H locs la hP hD hS hl
    have hiff := q_lt h.1.1 h.1.2
    exact lv_icmp_lt hx hb hd ht.symm (fun c9 => hgo [] t9 _ _ _ rfl (h.2.1 (by first | exact hiff.mp c9 | (rw [hiff] at c9; exact c9))) hn H locs la hP hD hS hl) (fun c9 => hgo _ _ _ _ _ hr9 (h.2.2 (by first | exact hiff.mp c9 | (rw [hiff] at c9; exact c9))) hn H locs la hP hD hS hl)
  · obtain ⟨hd, rfl⟩ : decode cc pc = .ok (.if_icmp .ge _, 3) ∧ nx = pc + 3 := of_decide_eq_true hdec
    have ht := of_decide_eq_true htgt
    obtain ⟨⟨x9, t9⟩, rfl⟩ : ∃ q, tg = [q] := by
      cases tg with
      | nil => cases ht
      | cons q t =>
        cases t with
        | nil => exact ⟨q, rfl⟩
        | cons q2 t => exact absurd (congrArg List.length ht) (by simp)
    have ht : (t9 : Int) = (pc : Int) + _ := (List.cons.inj ht).1
    intro hn H locs la hP hD hS hl
    have hiff := q_le h.1.2 h.1.1
    exact lv_icmp_ge hx hb hd ht.symm (fun c9 => hgo [] t9 _ _ _ rfl (h.2.1 (by first | exact hiff.mp c9 | (rw [hiff] at c9; exact c9))) hn H locs la hP hD hS hl) (fun c9 => hgo _ _ _ _ _ hr9 (h.2.2 (by first | exact hiff.mp c9 | (rw [hiff] at c9; exact c9))) hn H locs la hP hD hS hl)
  · obtain ⟨hd, rfl⟩ : decode cc pc = .ok (.if_icmp .gt _, 3) ∧ nx = pc + 3 := of_decide_eq_true hdec
    have ht := of_decide_eq_true htgt
    obtain ⟨⟨x9, t9⟩, rfl⟩ : ∃ q, tg = [q] := by
      cases tg with
      | nil => cases ht
      | cons q t =>
        cases t with
        | nil => exact ⟨q, rfl⟩
        | cons q2 t => exact absurd (congrArg List.length ht) (by simp)
    have ht : (t9 : Int) = (pc : Int) + _ := (List.cons.inj ht).1
    intro hn H locs la hP hD hS hl
    have hiff := q_lt h.1.2 h.1.1
    exact lv_icmp_gt hx hb hd ht.symm (fun c9 => hgo [] t9 _ _ _ rfl (h.2.1 (by first | exact hiff.mp c9 | (rw [hiff] at c9; exact c9))) hn H locs la hP hD hS hl) (fun c9 => hgo _ _ _ _ _ hr9 (h.2.2 (by first | exact hiff.mp c9 | (rw [hiff] at c9; exact c9))) hn H locs la hP hD hS hl)
  · obtain ⟨hd, rfl⟩ : decode cc pc = .ok (.if_icmp .le _, 3) ∧ nx = pc + 3 := of_decide_eq_true hdec
    have ht := of_decide_eq_true htgt
    obtain ⟨⟨x9, t9⟩, rfl⟩ : ∃ q, tg = [q] := by
      cases tg with
      | nil => cases ht
      | cons q t =>
        cases t with
        | nil => exact ⟨q, rfl⟩
        | cons q2 t => exact absurd (congrArg List.length ht) (by simp)
    have ht : (t9 : Int) = (pc : Int) + _ := (List.cons.inj ht).1
    intro hn H locs la hP hD hS hl
    have hiff := q_le h.1.1 h.1.2
    exact lv_icmp_le hx hb hd ht.symm (fun c9 => hgo [] t9 _ _ _ rfl (h.2.1 (by first | exact hiff.mp c9 | (rw [hiff] at c9; exact c9))) hn H locs la hP hD hS hl) (fun c9 => hgo _ _ _ _ _ hr9 (h.2.2 (by first | exact hiff.mp c9 | (rw [hiff] at c9; exact c9))) hn H locs la hP hD hS hl)
  · obtain ⟨hd, rfl⟩ : decode cc pc = .ok (.goto _, 3) ∧ nx = pc + 3 := of_decide_eq_true hdec
    have ht := of_decide_eq_true htgt
    obtain ⟨⟨x9, t9⟩, rfl⟩ : ∃ q, tg = [q] := by
      cases tg with
      | nil => cases ht
      | cons q t =>
        cases t with
        | nil => exact ⟨q, rfl⟩
        | cons q2 t => exact absurd (congrArg List.length ht) (by simp)
    have ht : (t9 : Int) = (pc : Int) + _ := (List.cons.inj ht).1
    intro hn H locs la hP hD hS hl
    exact lv_goto hx hb hd ht.symm (hgo [] t9 _ _ _ rfl h hn H locs la hP hD hS hl)
  · have hd := of_decide_eq_true hdec
    have ht := of_decide_eq_true htgt
    intro hn H locs la hP hD hS hl
    have e9 := q_ti h.1
    rcases q_tabS ht h.2 with ⟨t, off, c1, c2, c3, c4, c5⟩ | ⟨t, c1, c2, c3⟩
    · exact lv_tableIn hx hb hd (by rw [e9]; exact c1) (by rw [e9]; exact c2) (by rw [e9]; exact c3) c4 (hgo [] t _ _ _ rfl c5 hn H locs la hP hD hS hl)
    · exact lv_tableOut hx hb hd (by rw [e9]; exact c1) c2 (hgo [] t _ _ _ rfl c3 hn H locs la hP hD hS hl)
  · have hd := of_decide_eq_true hdec
    have ht := of_decide_eq_true htgt
    intro hn H locs la hP hD hS hl
    have e9 := q_ti h.1
    obtain ⟨t, off, c1, c2, c3⟩ := q_lkS _ _ ht.1 h.2
    exact lv_lookup hx hb hd ht.2 (by rw [e9]; exact c1) c2 (hgo [] t _ _ _ rfl c3 hn H locs la hP hD hS hl)
  · obtain ⟨hd, rfl⟩ : decode cc pc = .ok (.ireturn, 1) ∧ nx = pc + 1 := of_decide_eq_true hdec
    intro hn H locs la hP hD hS hl
    obtain ⟨h1, h2⟩ := h
    have hq : ∀ t : State, t.heap = H → s.WarmedH t.vm → q_Qc T N ad D cy A Rt args s (.returned (some (q_cv ad (.inl _)))) t := fun t ht hW => ⟨⟨some _, μ, rfl, h2, by rw [ht]; exact hP⟩, hS.F ht⟩
    unfold q_rk at h1
    split at h1
    · exact W.iret hx hb hr hq hS.2.2 hd
    · exact W.zret hx hb hr (by rcases h1 with rfl | rfl <;> rfl) hq hS.2.2 hd
    · exact W.zret hx hb hr (by
        have := q_nc h1.1 h1.2
        show Value.int (vp_nar .char _) = _
        rw [this]) hq hS.2.2 hd
    · exact h1.elim
  · obtain ⟨hd, rfl⟩ : decode cc pc = .ok (.areturn, 1) ∧ nx = pc + 1 := of_decide_eq_true hdec
    intro hn H locs la hP hD hS hl
    obtain ⟨rfl, h0, h2⟩ := h
    obtain ⟨n9, hr⟩ := hr
    rw [List.map_cons, q_refv h0]
    exact W.aret hx hb hr (Or.inl ⟨_, rfl⟩) (Or.inr ⟨_, rfl⟩) (fun t ht hW => ⟨⟨some _, μ, by rw [Option.map_some, q_refv h0], h2, by rw [ht]; exact hP⟩, hS.F ht⟩) hS.2.2 hd
  · obtain ⟨hd, rfl⟩ : decode cc pc = .ok (.return_, 1) ∧ nx = pc + 1 := of_decide_eq_true hdec
    intro hn H locs la hP hD hS hl
    obtain ⟨rfl, h2⟩ := h
    exact W.vret hx hb hr (fun t ht hW => ⟨⟨none, μ, rfl, h2, by rw [ht]; exact hP⟩, hS.F ht⟩) hS.2.2 hd
  · obtain ⟨hd, rfl⟩ : decode cc pc = .ok (.getfield _, 3) ∧ nx = pc + 3 := of_decide_eq_true hdec
    refine q_fget F hf (of_decide_eq_true huse) hd ?_
    unfold q_fd at h ⊢
    split at h
    · refine ⟨h.1, ?_⟩
      have h2 := h.2
      split at h2
      · exact hgo _ _ _ _ _ hr9 h2
      · exact h2.elim
    · exact h.elim
  · obtain ⟨hd, rfl⟩ : decode cc pc = .ok (.putfield _, 3) ∧ nx = pc + 3 := of_decide_eq_true hdec
    have hu := of_decide_eq_true huse
    refine q_fput F hf hg hu.1 hu.2 hd ?_
    unfold q_fd at h ⊢
    split at h
    · refine ⟨h.1, ?_⟩
      have h2 := h.2
      split at h2
      · exact q_pfz h2 (fun z hz => hgo _ _ _ _ _ hr9 hz)
      · exact h2.elim
    · exact h.elim
  · obtain ⟨hd, rfl⟩ : decode cc pc = .ok (.iaload, 1) ∧ nx = pc + 1 := of_decide_eq_true hdec
    refine q_aload F (Or.inl ⟨rfl, hd⟩) ?_
    unfold q_ar at h ⊢
    split at h
    · exact ⟨h.1, h.2.1, h.2.2.1, h.2.2.2.1, hgo _ _ _ _ _ hr9 h.2.2.2.2⟩
    · exact h.elim
  · obtain ⟨hd, rfl⟩ : decode cc pc = .ok (.laload, 1) ∧ nx = pc + 1 := of_decide_eq_true hdec
    refine q_aloadL F hd ?_
    unfold q_ar at h ⊢
    split at h
    · exact ⟨h.1, h.2.1, h.2.2.1, h.2.2.2.1, hgo _ _ _ _ _ hr9 h.2.2.2.2⟩
    · exact h.elim
  · obtain ⟨hd, rfl⟩ : decode cc pc = .ok (.baload, 1) ∧ nx = pc + 1 := of_decide_eq_true hdec
    refine q_aload F (Or.inr (Or.inl ⟨rfl, hd⟩)) ?_
    unfold q_ar at h ⊢
    split at h
    · exact ⟨h.1, h.2.1, h.2.2.1, h.2.2.2.1, hgo _ _ _ _ _ hr9 h.2.2.2.2⟩
    · exact h.elim
  · obtain ⟨hd, rfl⟩ : decode cc pc = .ok (.caload, 1) ∧ nx = pc + 1 := of_decide_eq_true hdec
    refine q_aload F (Or.inr (Or.inr ⟨rfl, hd⟩)) ?_
    unfold q_ar at h ⊢
    split at h
    · exact ⟨h.1, h.2.1, h.2.2.1, h.2.2.2.1, hgo _ _ _ _ _ hr9 h.2.2.2.2⟩
    · exact h.elim
  · obtain ⟨hd, rfl⟩ : decode cc pc = .ok (.aaload, 1) ∧ nx = pc + 1 := of_decide_eq_true hdec
    refine q_aloadA F hd ?_
    unfold q_aa at h ⊢
    split at h
    · exact ⟨h.1, h.2.1, h.2.2.1, h.2.2.2.1, h.2.2.2.2.1, hgo _ _ _ _ _ hr9 h.2.2.2.2.2⟩
    · exact h.elim
  · obtain ⟨hd, rfl⟩ : decode cc pc = .ok (.iastore, 1) ∧ nx = pc + 1 := of_decide_eq_true hdec
    refine q_ast F (Or.inl ⟨rfl, hd⟩) ?_
    unfold q_ar at h ⊢
    split at h
    · exact ⟨h.1, h.2.1, h.2.2.1, h.2.2.2.1, hgo _ _ _ _ _ hr9 h.2.2.2.2⟩
    · exact h.elim
  · obtain ⟨hd, rfl⟩ : decode cc pc = .ok (.lastore, 1) ∧ nx = pc + 1 := of_decide_eq_true hdec
    refine q_astL F hd ?_
    unfold q_ar at h ⊢
    split at h
    · exact ⟨h.1, h.2.1, h.2.2.1, h.2.2.2.1, hgo _ _ _ _ _ hr9 h.2.2.2.2⟩
    · exact h.elim
  · obtain ⟨hd, rfl⟩ : decode cc pc = .ok (.bastore, 1) ∧ nx = pc + 1 := of_decide_eq_true hdec
    unfold q_ar at h
    split at h
    · rename_i hTa
      refine q_ast F (Or.inr (Or.inl ⟨h.2.2.2.2.1, rfl, hd⟩)) ?_
      unfold q_ar
      rw [hTa]
      exact ⟨h.1, h.2.1, h.2.2.1, h.2.2.2.1, hgo _ _ _ _ _ hr9 h.2.2.2.2.2⟩
    · exact h.elim
  · obtain ⟨hd, rfl⟩ : decode cc pc = .ok (.castore, 1) ∧ nx = pc + 1 := of_decide_eq_true hdec
    unfold q_ar at h
    split at h
    · rename_i hTa
      refine q_ast F (Or.inr (Or.inr ⟨h.2.2.2.2.1, rfl, hd⟩)) ?_
      unfold q_ar
      rw [hTa]
      exact ⟨h.1, h.2.1, h.2.2.1, h.2.2.2.1, hgo _ _ _ _ _ hr9 h.2.2.2.2.2⟩
    · exact h.elim
  · obtain ⟨hd, rfl⟩ : decode cc pc = .ok (.arraylength, 1) ∧ nx = pc + 1 := of_decide_eq_true hdec
    refine q_alen F hd ?_
    unfold q_al at h ⊢
    split at h
    · exact ⟨h.1, hgo _ _ _ _ _ hr9 h.2⟩
    · exact h.elim
  · obtain ⟨hd, rfl⟩ : decode cc pc = .ok (.invokevirtual _, 3) ∧ nx = pc + 3 := of_decide_eq_true hdec
    exact hcV _ (of_decide_eq_true huse) pc _ _ _ _ hd h.1 h.2.1 h.2.2 (fun o μ9 hk => hgo _ _ _ _ _ hr9 hk)
  · obtain ⟨hd, rfl⟩ : decode cc pc = .ok (.invokestatic _, 3) ∧ nx = pc + 3 := of_decide_eq_true hdec
    exact hcS _ (of_decide_eq_true huse) pc _ _ _ _ hd h.1 h.2.1 h.2.2 (fun o μ9 hk => hgo _ _ _ _ _ hr9 hk)
  · obtain ⟨hd, rfl⟩ : decode cc pc = .ok (.invokespecial _, 3) ∧ nx = pc + 3 := of_decide_eq_true hdec
    exact hcI _ (of_decide_eq_true huse) pc _ _ _ _ hd h.1 h.2.1 h.2.2 (fun o μ9 hk => hgo _ _ _ _ _ hr9 hk)
  · exact h.elim
end QS6
end
section
/-! from the conditions to contracts, and from contracts to calls -/
def q_A (N : List Int) (ad : Int → Nat) : Nat → Prop := fun q => ∃ a ∈ N, ad a = q
/-- what else is said of the heap outside (texts), and that it lasts -/
def q_Zok (A : Nat → Prop) (Z : State → Prop) : Prop := (∀ s U : State, Z s → s.WarmedH U.vm → s.heap.size ≤ U.heap.size → (∀ q : Nat, q < s.heap.size → ¬ A q → U.heap[q]? = s.heap[q]?) → Z U) ∧ ∀ s U : State, Z s → U.vm = s.vm → U.heap = s.heap → Z U
def q_Pc (T : Int → Option QS) (N : List Int) (ad : Int → Nat) (D : va_G) (cy : Nat → ClassId) (Z : State → Prop) (ra : List QV) (μ : QM) : Array Value → State → Prop := va_Pc (ra.reverse.map (q_cv ad)) (fun U => va_P D vwCl (q_ws T N ad cy μ) U.heap ∧ va_K D vwCl (q_tys cy) U ∧ va_D (q_A N ad) (q_ws T N ad cy μ) ∧ Z U)
/-- a method's contract: from any memory and arguments of which its words hold -/
def q_Ct (l : Launch) (T : Int → Option QS) (N : List Int) (ad : Int → Nat) (D : va_G) (cy : Nat → ClassId) (Z : State → Prop) (y : MethodName) (cc : ByteArray) (nL : Nat) (ret : Option FieldType) (rm : Room) (sp : QP) : Prop := ∀ (ra : List QV) (μ : QM) (K : Option QV → QM → Prop), sp ra μ K → Met l y (.code y cc nL ret :: q_tb) rm (q_Pc T N ad D cy Z ra μ) (q_Qc T N ad D cy (q_A N ad) K) 0 0 (q_A N ad)
def q_wok (T : Int → Option QS) (N : List Int) : Prop := (∀ (i j : Nat) (a : Int), N[i]? = some a → N[j]? = some a → i = j) ∧ (∀ (a : Int) (sh : QS), T a = some sh → a ∈ N ∧ 0 ≤ a) ∧ (∀ (a : Int) (ci : Nat) (ks : List QK) (q : vw_C), T a = some (.inl (ci, ks)) → vwCl[ci]? = some q → q_kok q ks)
theorem q_wsD {T : Int → Option QS} {N : List Int} {ad : Int → Nat} {cy : Nat → ClassId} {A : Nat → Prop} {μ μ' : QM} (h : va_D A (q_ws T N ad cy μ)) : va_D A (q_ws T N ad cy μ') := by
  have key : ∀ (k : Nat) (q : Nat × va_E), (q_ws T N ad cy μ')[k]? = some q → ∃ q0, (q_ws T N ad cy μ)[k]? = some q0 ∧ q0.1 = q.1 := by
    intro k q hk
    unfold q_ws at hk ⊢
    rw [List.getElem?_map] at hk ⊢
    cases hn : N[k]? with
    | none => rw [hn] at hk; cases hk
    | some a => rw [hn] at hk; cases hk; exact ⟨_, rfl, rfl⟩
  refine ⟨fun i j x y hi hj hxy => ?_, fun k q hk => ?_⟩
  · obtain ⟨x0, h1, h2⟩ := key i x hi
    obtain ⟨y0, h3, h4⟩ := key j y hj
    exact h.1 i j x0 y0 h1 h3 (h2.trans (hxy.trans h4.symm))
  · obtain ⟨q0, h1, h2⟩ := key k q hk
    rw [← h2]
    exact h.2 k q0 h1
/-! the locals at the entry -/
def q_sl : List QV → QL
  | [] => []
  | v :: t => some v :: (if q_ct v = 2 then none :: q_sl t else q_sl t)
def q_in0 (nL : Nat) (ra : List QV) : QL := q_sl ra.reverse ++ List.replicate (nL - (q_sl ra.reverse).length) none
theorem q_sln (ad : Int → Nat) : ∀ vs : List QV, (lg_sl (vs.map (q_cv ad))).length = (q_sl vs).length
  | [] => rfl
  | v :: t => by
    have ih := q_sln ad t
    show ((if (q_cv ad v).category = 2 then [Slot.val (q_cv ad v), Slot.second] else [Slot.val (q_cv ad v)]) ++ lg_sl (t.map (q_cv ad))).length = (some v :: (if q_ct v = 2 then none :: q_sl t else q_sl t)).length
    rw [List.length_append, ih, q_ctv]
    split
    · simp only [List.length_cons, List.length_nil]; omega
    · simp only [List.length_cons, List.length_nil]; omega
theorem q_lga : ∀ (ls : QL) (n i : Nat) (v : QV), q_lg (ls ++ List.replicate n none) i = some v → q_lg ls i = some v
  | [], n, i, v, h => by
    have : ∀ (n i : Nat), q_lg (List.replicate n none) i = none := by
      intro n
      induction n with
      | zero => intro i; rfl
      | succ n ih => intro i; cases i with
        | zero => rfl
        | succ i => exact ih i
    rw [List.nil_append, this] at h
    cases h
  | x :: t, n, 0, v, h => h
  | x :: t, n, i + 1, v, h => q_lga t n i v h
theorem q_sla (ad : Int → Nat) : ∀ (vs : List QV) (o i : Nat) (v : QV), q_lg (q_sl vs) i = some v → (o + i, q_cv ad v) ∈ lv_args o (vs.map (q_cv ad))
  | [], _, _, _, h => by cases h
  | w :: t, o, 0, v, h => by
    cases h
    exact List.mem_cons_self
  | w :: t, o, i + 1, v, h => by
    have h1 : q_lg (if q_ct w = 2 then none :: q_sl t else q_sl t) i = some v := h
    refine List.mem_cons_of_mem _ ?_
    show (o + (i + 1), q_cv ad v) ∈ lv_args (if (q_cv ad w).category = 2 then o + 2 else o + 1) (t.map (q_cv ad))
    rw [q_ctv]
    by_cases c : q_ct w = 2
    · rw [if_pos c] at h1 ⊢
      cases i with
      | zero => cases h1
      | succ i =>
        have := q_sla ad t (o + 2) i v h1
        rw [show o + 2 + i = o + (i + 1 + 1) by omega] at this
        exact this
    · rw [if_neg c] at h1 ⊢
      have := q_sla ad t (o + 1) i v h1
      rw [show o + 1 + i = o + (i + 1) by omega] at this
      exact this
theorem q_slS (ad : Int → Nat) {ra : List QV} {nL : Nat} (h : (q_sl ra.reverse).length ≤ nL) : lv_has ((lg_sl (ra.reverse.map (q_cv ad)) ++ List.replicate (nL - (lg_sl (ra.reverse.map (q_cv ad))).length) Slot.unset).toArray) nL (q_prs ad (q_in0 nL ra)) := by
  have h1 := lv_entry (ra.reverse.map (q_cv ad)) (n := nL) (by rw [q_sln]; exact h)
  refine ⟨h1.1, h1.2.1, fun q hq => h1.2.2 q ?_⟩
  obtain ⟨v, e1, e2⟩ := q_mem2 hq
  have := q_sla ad ra.reverse 0 q.1 v (q_lga _ _ _ _ e1)
  rw [Nat.zero_add, ← e2] at this
  exact this
section QM7
variable (l : Launch) (T : Int → Option QS) (N : List Int) (ad : Int → Nat) (D : va_G) (cy : Nat → ClassId) (Z : State → Prop)
/-- the machine in a body -/
abbrev q_SB (Rt : Option QV → QM → Prop) (p : Program) (e : Env) (R : Room) (s : State) (m : MethodId) (args : Array Value) (below : List Frame) (meth : Method) (c : Code) (nL : Nat) : Nat → QL → List QV → QM → Prop := q_SW p l e R s m args below meth c (q_A N ad) s.heap T N ad D cy nL (MQ below (q_Qc T N ad D cy (q_A N ad) Rt) args s 0 0 (q_A N ad))
/-- a call of the instruction ins goes by its words -/
def q_CR (own : String) (cc : ByteArray) (nL : Nat) (R : Room) (G : Nat × QP) (ins : Instr) : Prop := ∀ (Rt : Option QV → QM → Prop) (p : Program) (e : Env) (s : State) (m : MethodId) (args : Array Value) (below : List Frame) (meth : Method) (c : Code), q_Fix p s m args meth c T N D cy own cc → c.maxLocals = nL → Z s →
  ∀ (pc : Nat) (ls : QL) (st : List QV) (μ : QM) (K : Option QV → QM → Prop), decode cc pc = .ok (ins, 3) → G.1 ≤ st.length → q_cats (st.drop G.1) ≤ 8 → G.2 (st.take G.1) μ K → (∀ o μ', K o μ' → q_SB l T N ad D cy Rt p e R s m args below meth c nL (pc + 3) ls (o.toList ++ st.drop G.1) μ') → q_SB l T N ad D cy Rt p e R s m args below meth c nL pc ls st μ
/-- a text is laid on the stack -/
def q_LR (own : String) (cc : ByteArray) (nL : Nat) (R : Room) (v : QV) (i : Nat) : Prop := ∀ (Rt : Option QV → QM → Prop) (p : Program) (e : Env) (s : State) (m : MethodId) (args : Array Value) (below : List Frame) (meth : Method) (c : Code), q_Fix p s m args meth c T N D cy own cc → c.maxLocals = nL → Z s →
  ∀ (pc : Nat) (ls : QL) (st : List QV) (μ : QM), decode cc pc = .ok (.ldc i, 2) → q_SB l T N ad D cy Rt p e R s m args below meth c nL (pc + 2) ls (v :: st) μ → q_SB l T N ad D cy Rt p e R s m args below meth c nL pc ls st μ
end QM7
/-- what a body's proof may use: nothing of the machine -/
def q_Rule (cc : ByteArray) (nL : Nat) (u : QU) (fl : Nat → Nat × Nat) (ld : Nat → QV) (Γ : Nat → Nat × QP) (T : Int → Option QS) (rk : Nat) (sk : Nat → Option (List QE)) (Rt : Option QV → QM → Prop) (S : Nat → QL → List QV → QM → Prop) : Prop := ∀ (n : Nat) (b : List QE) (pc : Nat) (ls : QL) (st : List QV) (μ : QM), q_ok cc nL u pc b = true → q_vc fl ld Γ T rk Rt sk S n b pc ls st μ → S pc ls st μ
def q_Body (cc : ByteArray) (nL : Nat) (u : QU) (fl : Nat → Nat × Nat) (ld : Nat → QV) (Γ : Nat → Nat × QP) (T : Int → Option QS) (rk : Nat) (sk : Nat → Option (List QE)) (sp : QP) : Prop := ∀ (S : Nat → QL → List QV → QM → Prop) (Rt : Option QV → QM → Prop), q_Rule cc nL u fl ld Γ T rk sk Rt S → ∀ (ra : List QV) (μ : QM), sp ra μ Rt → (q_sl ra.reverse).length ≤ nL ∧ S 0 (q_in0 nL ra) [] μ
theorem q_good : ∀ w ∈ q_tb, (w.onTables && w.keeps) = true ∨ ∃ ty, w = .arrayClass ty := fun w hw => good_of_word (List.mem_filter.mp hw).2
section QM8
variable {l : Launch} {T : Int → Option QS} {N : List Int} {ad : Int → Nat} {D : va_G} {cy : Nat → ClassId} {Z : State → Prop}
theorem q_met {y : MethodName} {own : String} {cc : ByteArray} {nL : Nat} {ret : Option FieldType} {rm : Room} {sp : QP} {u : QU} {fl : Nat → Nat × Nat} {ld : Nat → QV} {Γ : Nat → Nat × QP} {rk : Nat} {sk : Nat → Option (List QE)}
    (hw : q_wok T N) (hy : plainName y.cls = true) (ho : y.cls = own) (hf : q_fok own fl u.1) (hg : q_fokP own fl u.2.1) (hld : q_ldk own ld u.2.2.1) (hr : q_rto rk ret) (hsk : ∀ (pc : Nat) (b : List QE), sk pc = some b → q_ok cc nL u pc b = true)
    (hL : ∀ i ∈ u.2.2.2.1, q_LR l T N ad D cy Z own cc nL rm (ld i) i) (hV : ∀ i ∈ u.2.2.2.2.1, q_CR l T N ad D cy Z own cc nL rm (Γ i) (.invokevirtual i)) (hS : ∀ i ∈ u.2.2.2.2.2.1, q_CR l T N ad D cy Z own cc nL rm (Γ i) (.invokestatic i)) (hI : ∀ i ∈ u.2.2.2.2.2.2, q_CR l T N ad D cy Z own cc nL rm (Γ i) (.invokespecial i))
    (hB : q_Body cc nL u fl ld Γ T rk sk sp) : q_Ct l T N ad D cy Z y cc nL ret rm sp := by
  intro ra μ K hsp
  refine Met.ofW (cc := cc) (maxL := nL) (ret := ret) hy rfl ?_
  intro p e s m args below meth c s₁ B hml hv
  obtain ⟨rfl, hP, hK, hD, hZ⟩ := hv
  have hts0 := atoms_spec (ws := .code y cc nL ret :: q_tb) B.pre
  have hown : s.vm.findClass own = some m.cls := by rw [← ho]; exact findClass_of_methodNamed B.named
  have F : q_Fix p s m (ra.reverse.map (q_cv ad)).toArray meth c T N D cy own cc := ⟨B.exec, B.bytes, hown, fun w h => hts0 w (List.mem_cons_of_mem _ h), hK, B.notSynchronized, hw.1, hw.2.1, hw.2.2⟩
  have rule : q_Rule cc nL u fl ld Γ T rk sk K (q_SB l T N ad D cy K p e rm s m (ra.reverse.map (q_cv ad)).toArray below meth c nL) := by
    intro n
    induction n with
    | zero => intro b pc ls st μ _ h; exact h.elim
    | succ n ih =>
      intro b pc ls st μ hok h
      cases b with
      | nil =>
        have h' : (match sk pc with | none => q_SB l T N ad D cy K p e rm s m (ra.reverse.map (q_cv ad)).toArray below meth c nL pc ls st μ | some b => q_vc fl ld Γ T rk K sk (q_SB l T N ad D cy K p e rm s m (ra.reverse.map (q_cv ad)).toArray below meth c nL) n b pc ls st μ) := h
        cases hs : sk pc with
        | none => rw [hs] at h'; exact h'
        | some b => rw [hs] at h'; exact ih b pc ls st μ (hsk pc b hs) h'
      | cons x r =>
        obtain ⟨ins, nx, tg⟩ := x
        have hr' : q_rto rk meth.sig.returnType := by rw [B.returns]; exact hr
        exact q_stpS F hf hg hld hr' (fun i hi pc ls st μ hd k => hL i hi K p e s m _ below meth c F hml hZ pc ls st μ hd k) (fun i hi pc ls st μ K9 h1 h2 h3 h4 h5 => hV i hi K p e s m _ below meth c F hml hZ pc ls st μ K9 h1 h2 h3 h4 h5) (fun i hi pc ls st μ K9 h1 h2 h3 h4 h5 => hS i hi K p e s m _ below meth c F hml hZ pc ls st μ K9 h1 h2 h3 h4 h5) (fun i hi pc ls st μ K9 h1 h2 h3 h4 h5 => hI i hi K p e s m _ below meth c F hml hZ pc ls st μ K9 h1 h2 h3 h4 h5) (q_vc fl ld Γ T rk K sk (q_SB l T N ad D cy K p e rm s m (ra.reverse.map (q_cv ad)).toArray below meth c nL) n) (fun b pc ls st μ => ih b pc ls st μ) pc ins nx tg r ls st μ hok h
  obtain ⟨hlen, hS0⟩ := hB _ K rule ra μ hsp
  rw [lg_entry_eq]
  refine hS0 ?_ s.heap [] _ hP hD va_S.rf (q_slS ad hlen)
  unfold q_in0
  rw [List.length_append, List.length_replicate]
  omega
/-! calls -/
theorem q_blind {ra : List QV} {μ : QM} (hZ : q_Zok (q_A N ad) Z) : FrameBlind (q_Pc T N ad D cy Z ra μ) := fun a U g mk q => by
  obtain ⟨q0, qP, qK, qD, qZ⟩ := q
  exact ⟨q0, qP, va_K.moved (u := U) (U := U.calling g mk a) (Vm.Alike.refl U.vm) qK, qD, hZ.2 U _ qZ rfl rfl⟩
theorem q_back {Rt : Option QV → QM → Prop} {p : Program} {e : Env} {R : Room} {s : State} {m : MethodId} {args : Array Value} {below : List Frame} {meth : Method} {c : Code} {nL : Nat} {H : Heap} {locs : List Loc} {la : Array Slot} {pc : Nat} {ls : QL} {st rest : List QV} {μ : QM} {K : Option QV → QM → Prop} {av : Array Value}
    (hr : va_Run p l e R s m args below meth c H locs 0 0 0 0 (F0 m pc la (st.map (q_cv ad))) (rest.map (q_cv ad)) (q_Qc T N ad D cy (q_A N ad) K av) (q_A N ad)) (hn : ls.length = nL) (hD : va_D (q_A N ad) (q_ws T N ad cy μ)) (hS : va_S (q_A N ad) s.heap H locs) (hl : lv_has la nL (q_prs ad ls))
    (hk : ∀ o μ', K o μ' → q_SB l T N ad D cy Rt p e R s m args below meth c nL (pc + 3) ls (o.toList ++ rest) μ') : W p l e R s m args below meth c H locs 0 0 (MQ below (q_Qc T N ad D cy (q_A N ad) Rt) args s 0 0 (q_A N ad)) (F0 m pc la (st.map (q_cv ad))) := by
  intro U hU X
  obtain ⟨v, st₀, t, T', L, h0, X', hL, e1, e2, ⟨⟨o, μ', hv, hKo, hP'⟩, hz, hkp⟩, stp⟩ := hr U hU X
  have hv : v = o.map (q_cv ad) := Outcome.returned.inj hv
  subst hv
  rw [h0] at hz hkp
  have hS' : va_S (q_A N ad) s.heap T'.heap (locs ++ L) := ⟨Nat.le_trans hS.1 (by rw [e1]; exact hz), fun q h1 h2 => by rw [e1, hkp q (Nat.lt_of_lt_of_le h1 hS.1) h2]; exact hS.2.1 q h1 h2, fun q hq => by
    rcases List.mem_append.mp hq with h | h
    · exact hS.2.2 q h
    · exact hL q h⟩
  obtain ⟨t2, a1, b1⟩ := hk o μ' hKo hn T'.heap (locs ++ L) la (by rw [e1]; exact hP') (q_wsD hD) hS' hl T' rfl X'
  refine ⟨t2, stp t2 ?_, b1⟩
  have e9 : (o.toList ++ rest).map (q_cv ad) = (o.map (q_cv ad)).toList ++ rest.map (q_cv ad) := by cases o <;> rfl
  rw [e9] at a1
  exact a1
theorem q_pre {s : State} {m : MethodId} {args : Array Value} {meth : Method} {c : Code} {p : Program} {own : String} {cc : ByteArray} {ra : List QV} {μ : QM} {H : Heap} {locs : List Loc} (hZok : q_Zok (q_A N ad) Z) (F : q_Fix p s m args meth c T N D cy own cc) (hZ : Z s) (hP : va_P D vwCl (q_ws T N ad cy μ) H) (hD : va_D (q_A N ad) (q_ws T N ad cy μ)) (hS : va_S (q_A N ad) s.heap H locs) : ∀ U : State, U.heap = H → s.WarmedH U.vm → q_Pc T N ad D cy Z ra μ (ra.reverse.map (q_cv ad)).toArray U := by
  intro U hU hW
  exact ⟨rfl, by rw [hU]; exact hP, va_K.moved hW.alike F.2.2.2.2.1, hD, hZok.1 s U hZ hW (by rw [hU]; exact hS.1) (fun q h1 h2 => by rw [hU]; exact hS.2.1 q h1 h2)⟩
theorem q_goodW {y : MethodName} {bytes : ByteArray} {maxL : Nat} {ret : Option FieldType} (h : Cond.code y bytes maxL ret ∈ q_tb) : GoodIn q_tb (.code y bytes maxL ret :: q_tb) := by
  intro w hw
  rcases List.mem_cons.mp hw with rfl | hw
  · exact ⟨h, q_good _ h⟩
  · exact ⟨hw, q_good _ hw⟩
theorem q_roomS {m : MethodId} {pc : Nat} {la : Array Slot} {x : List Value} {rest : List QV} (h : q_cats rest ≤ 8) : 2 * (F0 m pc la x).monitorRoom + ((rest.map (q_cv ad)).map fun v => v.category).sum ≤ 8 := lv_room (by rw [q_catsS]; exact h)
theorem q_split {st : List QV} {n : Nat} : st.map (q_cv ad) = ((st.take n).map (q_cv ad)) ++ (st.drop n).map (q_cv ad) := by rw [← List.map_append, List.take_append_drop]
/-- a static method, of any class -/
theorem q_crS {y : MethodName} {own : String} {cc bytes : ByteArray} {nL maxL i n : Nat} {ret : Option FieldType} {R rm : Room} {sp : QP} (hZok : q_Zok (q_A N ad) Z) (hC : q_Ct l T N ad D cy Z y bytes maxL ret rm sp) (hm : Cond.code y bytes maxL ret ∈ q_tb) (h1 : Cond.methodLink own i y ∈ q_tb) (h2 : Cond.static y ∈ q_tb) (h3 : Cond.initialized y.cls ∈ q_tb)
    (hd : y.cls ≠ "java/lang/invoke/MethodHandle" ∧ y.cls ≠ "java/lang/invoke/VarHandle" ∧ (parseMethodDescriptor y.desc).map (fun d => d.parameters.length) = some n) (hc : rm.cells = 0 ∧ rm.slots = 0) (hR : rm.frames + 1 ≤ R.frames ∧ 8 + (maxL + 11) + rm.locals ≤ R.locals) : q_CR l T N ad D cy Z own cc nL R (n, sp) (.invokestatic i) := by
  intro Rt p e s m args below meth c F hml hZ pc ls st μ K hdg hlen hcat hsp hk hn H locs la hP hD hS hl
  have hts := F.2.2.2.1
  have hM := hC (st.take n) μ K hsp
  have cw := callB_of (R := R) (own := own) (index := i) (mc := 0) (ms := 0) n hts (q_goodW hm) rfl hc.1 hc.2 (hts _ h3) (hts _ h1) hd hR
  have hp : PreS s H (q_Pc T N ad D cy Z (st.take n) μ) ((st.take n).reverse.map (q_cv ad)) := ⟨q_blind hZok, q_pre hZok F hZ hP hD hS⟩
  exact q_back (va_runS (rest := (st.drop n).map (q_cv ad)) ⟨F.1, F.2.1, hml, F.2.2.1, hts⟩ hM ⟨cw, hts _ h2⟩ hp rfl (by rw [List.length_map, List.length_reverse, List.length_take]; omega) hl.1 (by rw [← List.map_reverse, List.reverse_reverse]; exact q_split) (q_roomS hcat) hdg ⟨Nat.zero_le _, Nat.zero_le _⟩) hn hD hS hl hk
theorem q_crSN {y : MethodName} {own host : String} {cc bytes : ByteArray} {nL maxL i n : Nat} {ret : Option FieldType} {R rm : Room} {sp : QP} (hZok : q_Zok (q_A N ad) Z) (hC : q_Ct l T N ad D cy Z y bytes maxL ret rm sp) (hm : Cond.code y bytes maxL ret ∈ q_tb) (h1 : ∀ s : State, Z s → va_Nw (.methodLinkNest own i y host) s) (h2 : Cond.static y ∈ q_tb) (h3 : Cond.initialized y.cls ∈ q_tb)
    (hd : y.cls ≠ "java/lang/invoke/MethodHandle" ∧ y.cls ≠ "java/lang/invoke/VarHandle" ∧ (parseMethodDescriptor y.desc).map (fun d => d.parameters.length) = some n) (hc : rm.cells = 0 ∧ rm.slots = 0) (hR : rm.frames + 1 ≤ R.frames ∧ 8 + (maxL + 11) + rm.locals ≤ R.locals) : q_CR l T N ad D cy Z own cc nL R (n, sp) (.invokestatic i) := by
  intro Rt p e s m args below meth c F hml hZ pc ls st μ K hdg hlen hcat hsp hk hn H locs la hP hD hS hl
  have hts := F.2.2.2.1
  have hM := hC (st.take n) μ K hsp
  have cw := va_cnB (R := R) (own := own) (index := i) (mc := 0) (ms := 0) n hts (q_goodW hm) rfl hc.1 hc.2 (h1 s hZ) (hts _ h3) hd hR
  have hp : PreS s H (q_Pc T N ad D cy Z (st.take n) μ) ((st.take n).reverse.map (q_cv ad)) := ⟨q_blind hZok, q_pre hZok F hZ hP hD hS⟩
  exact q_back (va_runSN (rest := (st.drop n).map (q_cv ad)) ⟨F.1, F.2.1, hml, F.2.2.1, hts⟩ hM ⟨cw, hts _ h2, trivial⟩ hp rfl (by rw [List.length_map, List.length_reverse, List.length_take]; omega) hl.1 (by rw [← List.map_reverse, List.reverse_reverse]; exact q_split) (q_roomS hcat) hdg ⟨Nat.zero_le _, Nat.zero_le _⟩) hn hD hS hl hk
/-- what a method's words say of its receiver -/
def q_rcv (T : Int → Option QS) (C : String) (sp : QP) : Prop := ∀ (ra : List QV) (μ : QM) (K : Option QV → QM → Prop), sp ra μ K → ∃ (rA : List QV) (b : Int) (ci : Nat) (ks : List QK) (q : vw_C), ra = rA ++ [.inr (.inr b)] ∧ T b = some (.inl (ci, ks)) ∧ vwCl[ci]? = some q ∧ q.1 = C
theorem q_crV {y : MethodName} {own : String} {cc bytes : ByteArray} {nL maxL i n : Nat} {ret : Option FieldType} {R rm : Room} {sp : QP} (hZok : q_Zok (q_A N ad) Z) (hC : q_Ct l T N ad D cy Z y bytes maxL ret rm sp) (hrc : q_rcv T y.cls sp) (hm : Cond.code y bytes maxL ret ∈ q_tb) (h1 : Cond.methodLink own i y ∈ q_tb) (h2 : Cond.instanceMethod y ∈ q_tb) (h4 : Cond.selects y.cls y y ∈ q_tb) (h3 : Cond.initialized y.cls ∈ q_tb)
    (hd : y.cls ≠ "java/lang/invoke/MethodHandle" ∧ y.cls ≠ "java/lang/invoke/VarHandle" ∧ (parseMethodDescriptor y.desc).map (fun d => d.parameters.length) = some n) (hc : rm.cells = 0 ∧ rm.slots = 0) (hR : rm.frames + 1 ≤ R.frames ∧ 8 + (maxL + 11) + rm.locals ≤ R.locals) : q_CR l T N ad D cy Z own cc nL R (n + 1, sp) (.invokevirtual i) := by
  intro Rt p e s m args below meth c F hml hZ pc ls st μ K hdg hlen hcat hsp hk hn H locs la hP hD hS hl
  have hts := F.2.2.2.1
  have hM := hC (st.take (n + 1)) μ K hsp
  obtain ⟨rA, b, ci, ks, q, e1, e2, e3, e4⟩ := hrc _ _ _ hsp
  have cw := callB_of (R := R) (own := own) (index := i) (mc := 0) (ms := 0) n hts (q_goodW hm) rfl hc.1 hc.2 (hts _ h3) (hts _ h1) hd hR
  obtain ⟨h0, k9, -, hw9⟩ := q_cell (ad := ad) F e2
  have hrev : (st.take (n + 1)).reverse.map (q_cv ad) = .ref (ad b) :: rA.reverse.map (q_cv ad) := by rw [e1, List.reverse_append, List.reverse_singleton, List.singleton_append, List.map_cons, q_refv h0]
  have hlA : rA.length = n := by
    have := congrArg List.length e1
    rw [List.length_take, List.length_append, List.length_singleton] at this
    omega
  have hp : PreV s H y.cls (ad b) (q_Pc T N ad D cy Z (st.take (n + 1)) μ) (rA.reverse.map (q_cv ad)) := ⟨q_blind hZok, by rw [← e4]; exact va_recv F.2.2.2.2.1 hP e3 (hw9 μ), fun U hU hW => by rw [← hrev]; exact q_pre hZok F hZ hP hD hS U hU hW⟩
  exact q_back (va_runV (rest := (st.drop (n + 1)).map (q_cv ad)) ⟨F.1, F.2.1, hml, F.2.2.1, hts⟩ hM ⟨cw, hts _ h2, hts _ h4⟩ hp rfl (by rw [List.length_map, List.length_reverse]; exact hlA) hl.1 (by
    show st.map (q_cv ad) = _
    rw [q_split (n := n + 1), e1, ← List.map_reverse, List.reverse_reverse, List.map_append, List.map_singleton, q_refv h0, List.append_assoc]
    rfl) (q_roomS hcat) hdg ⟨Nat.zero_le _, Nat.zero_le _⟩) hn hD hS hl hk
end QM8
end
