section
-- ===== PART A: goes FIRST, ahead of the names: the tables' words, and 'selects' of the private methods out of them =====
/-- a private method of a class that the tables say can be made, by its rows of tables_1 -/
def lw_okq (q : MethodName × Nat) : Prop := (q.1.cls ≠ "java/lang/invoke/MethodHandle" ∧ q.1.cls ≠ "java/lang/invoke/VarHandle") ∧ Cond.instantiable q.1.cls q.2 ∈ tables_1 ∧ Cond.privateMethod q.1 ∈ tables_1 ∧ Cond.instanceMethod q.1 ∈ tables_1
theorem lw_p0 : lw_okq (⟨"HiddenRows", "forgetWays", "()V"⟩, 8) := ⟨⟨by decide +kernel, by decide +kernel⟩, List.mem_of_getElem? (i := 13) (by decide +kernel), List.mem_of_getElem? (i := 292) (by decide +kernel), List.mem_of_getElem? (i := 293) (by decide +kernel)⟩
theorem lw_p1 : lw_okq (⟨"HiddenRows", "forgetTrees", "()V"⟩, 8) := ⟨⟨by decide +kernel, by decide +kernel⟩, List.mem_of_getElem? (i := 13) (by decide +kernel), List.mem_of_getElem? (i := 319) (by decide +kernel), List.mem_of_getElem? (i := 320) (by decide +kernel)⟩
theorem lw_p2 : lw_okq (⟨"HiddenRows$WaySums", "showPlaces", "()V"⟩, 9) := ⟨⟨by decide +kernel, by decide +kernel⟩, List.mem_of_getElem? (i := 77) (by decide +kernel), List.mem_of_getElem? (i := 370) (by decide +kernel), List.mem_of_getElem? (i := 371) (by decide +kernel)⟩
theorem lw_p3 : lw_okq (⟨"HiddenRows$WaySums", "showOf", "(II)J"⟩, 9) := ⟨⟨by decide +kernel, by decide +kernel⟩, List.mem_of_getElem? (i := 77) (by decide +kernel), List.mem_of_getElem? (i := 374) (by decide +kernel), List.mem_of_getElem? (i := 375) (by decide +kernel)⟩
theorem lw_p4 : lw_okq (⟨"HiddenRows$WaySums", "cut", "(I)J"⟩, 9) := ⟨⟨by decide +kernel, by decide +kernel⟩, List.mem_of_getElem? (i := 77) (by decide +kernel), List.mem_of_getElem? (i := 378) (by decide +kernel), List.mem_of_getElem? (i := 379) (by decide +kernel)⟩
theorem lw_p5 : lw_okq (⟨"HiddenRows$WaySums", "sumFromBehind", "()V"⟩, 9) := ⟨⟨by decide +kernel, by decide +kernel⟩, List.mem_of_getElem? (i := 77) (by decide +kernel), List.mem_of_getElem? (i := 382) (by decide +kernel), List.mem_of_getElem? (i := 383) (by decide +kernel)⟩
theorem lw_p6 : lw_okq (⟨"HiddenRows$WaySums", "movedOutOf", "(II)J"⟩, 9) := ⟨⟨by decide +kernel, by decide +kernel⟩, List.mem_of_getElem? (i := 77) (by decide +kernel), List.mem_of_getElem? (i := 394) (by decide +kernel), List.mem_of_getElem? (i := 395) (by decide +kernel)⟩
theorem lw_p7 : lw_okq (⟨"HiddenRows$WaySums", "sumFromAhead", "()V"⟩, 9) := ⟨⟨by decide +kernel, by decide +kernel⟩, List.mem_of_getElem? (i := 77) (by decide +kernel), List.mem_of_getElem? (i := 398) (by decide +kernel), List.mem_of_getElem? (i := 399) (by decide +kernel)⟩
theorem lw_p8 : lw_okq (⟨"HiddenRows$WaySums", "movedInto", "(II)J"⟩, 9) := ⟨⟨by decide +kernel, by decide +kernel⟩, List.mem_of_getElem? (i := 77) (by decide +kernel), List.mem_of_getElem? (i := 402) (by decide +kernel), List.mem_of_getElem? (i := 403) (by decide +kernel)⟩
theorem lw_p9 : lw_okq (⟨"HiddenRows$WaySums", "endedBefore", "(II)J"⟩, 9) := ⟨⟨by decide +kernel, by decide +kernel⟩, List.mem_of_getElem? (i := 77) (by decide +kernel), List.mem_of_getElem? (i := 406) (by decide +kernel), List.mem_of_getElem? (i := 407) (by decide +kernel)⟩
theorem lw_p10 : lw_okq (⟨"HiddenRows$BestWays", "listEnds", "(II)V"⟩, 6) := ⟨⟨by decide +kernel, by decide +kernel⟩, List.mem_of_getElem? (i := 117) (by decide +kernel), List.mem_of_getElem? (i := 466) (by decide +kernel), List.mem_of_getElem? (i := 467) (by decide +kernel)⟩
theorem lw_p11 : lw_okq (⟨"HiddenRows$BestWays", "endsFrom", "(II)LHiddenRows$WayList;"⟩, 6) := ⟨⟨by decide +kernel, by decide +kernel⟩, List.mem_of_getElem? (i := 117) (by decide +kernel), List.mem_of_getElem? (i := 470) (by decide +kernel), List.mem_of_getElem? (i := 471) (by decide +kernel)⟩
theorem lw_p12 : lw_okq (⟨"HiddenRows$WayList", "isBetter", "(JII)Z"⟩, 3) := ⟨⟨by decide +kernel, by decide +kernel⟩, List.mem_of_getElem? (i := 124) (by decide +kernel), List.mem_of_getElem? (i := 479) (by decide +kernel), List.mem_of_getElem? (i := 480) (by decide +kernel)⟩
theorem lw_p13 : lw_okq (⟨"HiddenRows$BestWays", "offerMoves", "(LHiddenRows$WayList;JIII)V"⟩, 6) := ⟨⟨by decide +kernel, by decide +kernel⟩, List.mem_of_getElem? (i := 117) (by decide +kernel), List.mem_of_getElem? (i := 486) (by decide +kernel), List.mem_of_getElem? (i := 487) (by decide +kernel)⟩
theorem lw_p14 : lw_okq (⟨"HiddenRows$BestWays", "listWhole", "()V"⟩, 6) := ⟨⟨by decide +kernel, by decide +kernel⟩, List.mem_of_getElem? (i := 117) (by decide +kernel), List.mem_of_getElem? (i := 493) (by decide +kernel), List.mem_of_getElem? (i := 494) (by decide +kernel)⟩
theorem lw_p15 : lw_okq (⟨"HiddenRows$Drawing", "openSegment", "(I)J"⟩, 9) := ⟨⟨by decide +kernel, by decide +kernel⟩, List.mem_of_getElem? (i := 166) (by decide +kernel), List.mem_of_getElem? (i := 520) (by decide +kernel), List.mem_of_getElem? (i := 521) (by decide +kernel)⟩
def lw_privs_1 : List (MethodName × Nat) := [(⟨"HiddenRows", "forgetWays", "()V"⟩, 8), (⟨"HiddenRows", "forgetTrees", "()V"⟩, 8), (⟨"HiddenRows$WaySums", "showPlaces", "()V"⟩, 9), (⟨"HiddenRows$WaySums", "showOf", "(II)J"⟩, 9), (⟨"HiddenRows$WaySums", "cut", "(I)J"⟩, 9), (⟨"HiddenRows$WaySums", "sumFromBehind", "()V"⟩, 9), (⟨"HiddenRows$WaySums", "movedOutOf", "(II)J"⟩, 9), (⟨"HiddenRows$WaySums", "sumFromAhead", "()V"⟩, 9), (⟨"HiddenRows$WaySums", "movedInto", "(II)J"⟩, 9), (⟨"HiddenRows$WaySums", "endedBefore", "(II)J"⟩, 9), (⟨"HiddenRows$BestWays", "listEnds", "(II)V"⟩, 6), (⟨"HiddenRows$BestWays", "endsFrom", "(II)LHiddenRows$WayList;"⟩, 6), (⟨"HiddenRows$WayList", "isBetter", "(JII)Z"⟩, 3), (⟨"HiddenRows$BestWays", "offerMoves", "(LHiddenRows$WayList;JIII)V"⟩, 6), (⟨"HiddenRows$BestWays", "listWhole", "()V"⟩, 6), (⟨"HiddenRows$Drawing", "openSegment", "(I)J"⟩, 9)]
theorem lw_r1 : ∀ q ∈ lw_privs_1, lw_okq q := List.forall_mem_cons.mpr ⟨lw_p0, List.forall_mem_cons.mpr ⟨lw_p1, List.forall_mem_cons.mpr ⟨lw_p2, List.forall_mem_cons.mpr ⟨lw_p3, List.forall_mem_cons.mpr ⟨lw_p4, List.forall_mem_cons.mpr ⟨lw_p5, List.forall_mem_cons.mpr ⟨lw_p6, List.forall_mem_cons.mpr ⟨lw_p7, List.forall_mem_cons.mpr ⟨lw_p8, List.forall_mem_cons.mpr ⟨lw_p9, List.forall_mem_cons.mpr ⟨lw_p10, List.forall_mem_cons.mpr ⟨lw_p11, List.forall_mem_cons.mpr ⟨lw_p12, List.forall_mem_cons.mpr ⟨lw_p13, List.forall_mem_cons.mpr ⟨lw_p14, List.forall_mem_cons.mpr ⟨lw_p15, fun _ h => absurd h List.not_mem_nil⟩⟩⟩⟩⟩⟩⟩⟩⟩⟩⟩⟩⟩⟩⟩⟩
theorem lw_p16 : lw_okq (⟨"HiddenRows$Drawing", "tellPlace", "(IJ)J"⟩, 9) := ⟨⟨by decide +kernel, by decide +kernel⟩, List.mem_of_getElem? (i := 166) (by decide +kernel), List.mem_of_getElem? (i := 525) (by decide +kernel), List.mem_of_getElem? (i := 526) (by decide +kernel)⟩
theorem lw_p17 : lw_okq (⟨"HiddenRows$Drawing", "sumTelling", "(II)J"⟩, 9) := ⟨⟨by decide +kernel, by decide +kernel⟩, List.mem_of_getElem? (i := 166) (by decide +kernel), List.mem_of_getElem? (i := 529) (by decide +kernel), List.mem_of_getElem? (i := 530) (by decide +kernel)⟩
theorem lw_p18 : lw_okq (⟨"HiddenRows$Drawing", "closing", "(II)J"⟩, 9) := ⟨⟨by decide +kernel, by decide +kernel⟩, List.mem_of_getElem? (i := 166) (by decide +kernel), List.mem_of_getElem? (i := 533) (by decide +kernel), List.mem_of_getElem? (i := 534) (by decide +kernel)⟩
theorem lw_p19 : lw_okq (⟨"HiddenRows$Drawing", "take", "(II)V"⟩, 9) := ⟨⟨by decide +kernel, by decide +kernel⟩, List.mem_of_getElem? (i := 166) (by decide +kernel), List.mem_of_getElem? (i := 538) (by decide +kernel), List.mem_of_getElem? (i := 539) (by decide +kernel)⟩
theorem lw_p20 : lw_okq (⟨"HiddenRows$TreeTables", "refresh", "()V"⟩, 10) := ⟨⟨by decide +kernel, by decide +kernel⟩, List.mem_of_getElem? (i := 224) (by decide +kernel), List.mem_of_getElem? (i := 554) (by decide +kernel), List.mem_of_getElem? (i := 555) (by decide +kernel)⟩
theorem lw_p21 : lw_okq (⟨"HiddenRows$TreeTables", "fill", "(III)V"⟩, 10) := ⟨⟨by decide +kernel, by decide +kernel⟩, List.mem_of_getElem? (i := 224) (by decide +kernel), List.mem_of_getElem? (i := 558) (by decide +kernel), List.mem_of_getElem? (i := 559) (by decide +kernel)⟩
theorem lw_p22 : lw_okq (⟨"HiddenRows$TreeTables", "addSplit", "(IIII)V"⟩, 10) := ⟨⟨by decide +kernel, by decide +kernel⟩, List.mem_of_getElem? (i := 224) (by decide +kernel), List.mem_of_getElem? (i := 572) (by decide +kernel), List.mem_of_getElem? (i := 573) (by decide +kernel)⟩
theorem lw_p23 : lw_okq (⟨"HiddenRows$TreeTables", "push", "(II)V"⟩, 10) := ⟨⟨by decide +kernel, by decide +kernel⟩, List.mem_of_getElem? (i := 224) (by decide +kernel), List.mem_of_getElem? (i := 604) (by decide +kernel), List.mem_of_getElem? (i := 605) (by decide +kernel)⟩
theorem lw_p24 : lw_okq (⟨"HiddenRows$TreeTables", "tellNode", "(II)I"⟩, 10) := ⟨⟨by decide +kernel, by decide +kernel⟩, List.mem_of_getElem? (i := 224) (by decide +kernel), List.mem_of_getElem? (i := 608) (by decide +kernel), List.mem_of_getElem? (i := 609) (by decide +kernel)⟩
theorem lw_p25 : lw_okq (⟨"HiddenRows$TreeTables", "bestParts", "(IIII)I"⟩, 10) := ⟨⟨by decide +kernel, by decide +kernel⟩, List.mem_of_getElem? (i := 224) (by decide +kernel), List.mem_of_getElem? (i := 612) (by decide +kernel), List.mem_of_getElem? (i := 613) (by decide +kernel)⟩
theorem lw_p26 : lw_okq (⟨"HiddenRows$TreeTables", "addAround", "(IIII)V"⟩, 10) := ⟨⟨by decide +kernel, by decide +kernel⟩, List.mem_of_getElem? (i := 224) (by decide +kernel), List.mem_of_getElem? (i := 624) (by decide +kernel), List.mem_of_getElem? (i := 625) (by decide +kernel)⟩
theorem lw_p27 : lw_okq (⟨"HiddenRows$TreeTables", "addProducts", "(I[[JI[[JI)V"⟩, 10) := ⟨⟨by decide +kernel, by decide +kernel⟩, List.mem_of_getElem? (i := 224) (by decide +kernel), List.mem_of_getElem? (i := 628) (by decide +kernel), List.mem_of_getElem? (i := 629) (by decide +kernel)⟩
theorem lw_p28 : lw_okq (⟨"HiddenRowsModel", "change", "()V"⟩, 27) := ⟨⟨by decide +kernel, by decide +kernel⟩, List.mem_of_getElem? (i := 632) (by decide +kernel), List.mem_of_getElem? (i := 724) (by decide +kernel), List.mem_of_getElem? (i := 725) (by decide +kernel)⟩
theorem lw_p29 : lw_okq (⟨"HiddenRowsModel", "isState", "(I)Z"⟩, 27) := ⟨⟨by decide +kernel, by decide +kernel⟩, List.mem_of_getElem? (i := 632) (by decide +kernel), List.mem_of_getElem? (i := 732) (by decide +kernel), List.mem_of_getElem? (i := 733) (by decide +kernel)⟩
theorem lw_p30 : lw_okq (⟨"HiddenRowsModel", "isKind", "(I)Z"⟩, 27) := ⟨⟨by decide +kernel, by decide +kernel⟩, List.mem_of_getElem? (i := 632) (by decide +kernel), List.mem_of_getElem? (i := 751) (by decide +kernel), List.mem_of_getElem? (i := 752) (by decide +kernel)⟩
theorem lw_p31 : lw_okq (⟨"HiddenRowsModel", "isPlace", "(I)Z"⟩, 27) := ⟨⟨by decide +kernel, by decide +kernel⟩, List.mem_of_getElem? (i := 632) (by decide +kernel), List.mem_of_getElem? (i := 771) (by decide +kernel), List.mem_of_getElem? (i := 772) (by decide +kernel)⟩
def lw_privs_2 : List (MethodName × Nat) := [(⟨"HiddenRows$Drawing", "tellPlace", "(IJ)J"⟩, 9), (⟨"HiddenRows$Drawing", "sumTelling", "(II)J"⟩, 9), (⟨"HiddenRows$Drawing", "closing", "(II)J"⟩, 9), (⟨"HiddenRows$Drawing", "take", "(II)V"⟩, 9), (⟨"HiddenRows$TreeTables", "refresh", "()V"⟩, 10), (⟨"HiddenRows$TreeTables", "fill", "(III)V"⟩, 10), (⟨"HiddenRows$TreeTables", "addSplit", "(IIII)V"⟩, 10), (⟨"HiddenRows$TreeTables", "push", "(II)V"⟩, 10), (⟨"HiddenRows$TreeTables", "tellNode", "(II)I"⟩, 10), (⟨"HiddenRows$TreeTables", "bestParts", "(IIII)I"⟩, 10), (⟨"HiddenRows$TreeTables", "addAround", "(IIII)V"⟩, 10), (⟨"HiddenRows$TreeTables", "addProducts", "(I[[JI[[JI)V"⟩, 10), (⟨"HiddenRowsModel", "change", "()V"⟩, 27), (⟨"HiddenRowsModel", "isState", "(I)Z"⟩, 27), (⟨"HiddenRowsModel", "isKind", "(I)Z"⟩, 27), (⟨"HiddenRowsModel", "isPlace", "(I)Z"⟩, 27)]
theorem lw_r2 : ∀ q ∈ lw_privs_2, lw_okq q := List.forall_mem_cons.mpr ⟨lw_p16, List.forall_mem_cons.mpr ⟨lw_p17, List.forall_mem_cons.mpr ⟨lw_p18, List.forall_mem_cons.mpr ⟨lw_p19, List.forall_mem_cons.mpr ⟨lw_p20, List.forall_mem_cons.mpr ⟨lw_p21, List.forall_mem_cons.mpr ⟨lw_p22, List.forall_mem_cons.mpr ⟨lw_p23, List.forall_mem_cons.mpr ⟨lw_p24, List.forall_mem_cons.mpr ⟨lw_p25, List.forall_mem_cons.mpr ⟨lw_p26, List.forall_mem_cons.mpr ⟨lw_p27, List.forall_mem_cons.mpr ⟨lw_p28, List.forall_mem_cons.mpr ⟨lw_p29, List.forall_mem_cons.mpr ⟨lw_p30, List.forall_mem_cons.mpr ⟨lw_p31, fun _ h => absurd h List.not_mem_nil⟩⟩⟩⟩⟩⟩⟩⟩⟩⟩⟩⟩⟩⟩⟩⟩
theorem lw_p32 : lw_okq (⟨"HiddenRowsModel", "know", "()V"⟩, 27) := ⟨⟨by decide +kernel, by decide +kernel⟩, List.mem_of_getElem? (i := 632) (by decide +kernel), List.mem_of_getElem? (i := 779) (by decide +kernel), List.mem_of_getElem? (i := 780) (by decide +kernel)⟩
theorem lw_p33 : lw_okq (⟨"HiddenRowsModel", "next", "(Z)Z"⟩, 27) := ⟨⟨by decide +kernel, by decide +kernel⟩, List.mem_of_getElem? (i := 632) (by decide +kernel), List.mem_of_getElem? (i := 783) (by decide +kernel), List.mem_of_getElem? (i := 784) (by decide +kernel)⟩
theorem lw_p34 : lw_okq (⟨"HiddenRowsModel", "canBe", "(II)Z"⟩, 27) := ⟨⟨by decide +kernel, by decide +kernel⟩, List.mem_of_getElem? (i := 632) (by decide +kernel), List.mem_of_getElem? (i := 787) (by decide +kernel), List.mem_of_getElem? (i := 788) (by decide +kernel)⟩
theorem lw_p35 : lw_okq (⟨"HiddenRowsModel", "stay", "(I)I"⟩, 27) := ⟨⟨by decide +kernel, by decide +kernel⟩, List.mem_of_getElem? (i := 632) (by decide +kernel), List.mem_of_getElem? (i := 791) (by decide +kernel), List.mem_of_getElem? (i := 792) (by decide +kernel)⟩
theorem lw_p36 : lw_okq (⟨"HiddenRowsModel", "weightOf", "()J"⟩, 27) := ⟨⟨by decide +kernel, by decide +kernel⟩, List.mem_of_getElem? (i := 632) (by decide +kernel), List.mem_of_getElem? (i := 795) (by decide +kernel), List.mem_of_getElem? (i := 796) (by decide +kernel)⟩
theorem lw_p37 : lw_okq (⟨"HiddenRowsModel", "show", "(II)I"⟩, 27) := ⟨⟨by decide +kernel, by decide +kernel⟩, List.mem_of_getElem? (i := 632) (by decide +kernel), List.mem_of_getElem? (i := 799) (by decide +kernel), List.mem_of_getElem? (i := 800) (by decide +kernel)⟩
theorem lw_p38 : lw_okq (⟨"HiddenRowsModel", "add", "(J)V"⟩, 27) := ⟨⟨by decide +kernel, by decide +kernel⟩, List.mem_of_getElem? (i := 632) (by decide +kernel), List.mem_of_getElem? (i := 803) (by decide +kernel), List.mem_of_getElem? (i := 804) (by decide +kernel)⟩
theorem lw_p39 : lw_okq (⟨"HiddenRowsModel", "keep", "(J)V"⟩, 27) := ⟨⟨by decide +kernel, by decide +kernel⟩, List.mem_of_getElem? (i := 632) (by decide +kernel), List.mem_of_getElem? (i := 807) (by decide +kernel), List.mem_of_getElem? (i := 808) (by decide +kernel)⟩
theorem lw_p40 : lw_okq (⟨"HiddenRowsModel", "findTrees", "(III)V"⟩, 27) := ⟨⟨by decide +kernel, by decide +kernel⟩, List.mem_of_getElem? (i := 632) (by decide +kernel), List.mem_of_getElem? (i := 863) (by decide +kernel), List.mem_of_getElem? (i := 864) (by decide +kernel)⟩
theorem lw_p41 : lw_okq (⟨"HiddenRowsModel", "findSpan", "(III)V"⟩, 27) := ⟨⟨by decide +kernel, by decide +kernel⟩, List.mem_of_getElem? (i := 632) (by decide +kernel), List.mem_of_getElem? (i := 867) (by decide +kernel), List.mem_of_getElem? (i := 868) (by decide +kernel)⟩
theorem lw_p42 : lw_okq (⟨"HiddenRowsModel", "leafOf", "(II)J"⟩, 27) := ⟨⟨by decide +kernel, by decide +kernel⟩, List.mem_of_getElem? (i := 632) (by decide +kernel), List.mem_of_getElem? (i := 874) (by decide +kernel), List.mem_of_getElem? (i := 875) (by decide +kernel)⟩
theorem lw_p43 : lw_okq (⟨"HiddenRowsModel", "whole", "(I)I"⟩, 27) := ⟨⟨by decide +kernel, by decide +kernel⟩, List.mem_of_getElem? (i := 632) (by decide +kernel), List.mem_of_getElem? (i := 878) (by decide +kernel), List.mem_of_getElem? (i := 879) (by decide +kernel)⟩
theorem lw_p44 : lw_okq (⟨"HiddenRowsModel", "leastOf", "(III)I"⟩, 27) := ⟨⟨by decide +kernel, by decide +kernel⟩, List.mem_of_getElem? (i := 632) (by decide +kernel), List.mem_of_getElem? (i := 895) (by decide +kernel), List.mem_of_getElem? (i := 896) (by decide +kernel)⟩
def lw_privs_3 : List (MethodName × Nat) := [(⟨"HiddenRowsModel", "know", "()V"⟩, 27), (⟨"HiddenRowsModel", "next", "(Z)Z"⟩, 27), (⟨"HiddenRowsModel", "canBe", "(II)Z"⟩, 27), (⟨"HiddenRowsModel", "stay", "(I)I"⟩, 27), (⟨"HiddenRowsModel", "weightOf", "()J"⟩, 27), (⟨"HiddenRowsModel", "show", "(II)I"⟩, 27), (⟨"HiddenRowsModel", "add", "(J)V"⟩, 27), (⟨"HiddenRowsModel", "keep", "(J)V"⟩, 27), (⟨"HiddenRowsModel", "findTrees", "(III)V"⟩, 27), (⟨"HiddenRowsModel", "findSpan", "(III)V"⟩, 27), (⟨"HiddenRowsModel", "leafOf", "(II)J"⟩, 27), (⟨"HiddenRowsModel", "whole", "(I)I"⟩, 27), (⟨"HiddenRowsModel", "leastOf", "(III)I"⟩, 27)]
theorem lw_r3 : ∀ q ∈ lw_privs_3, lw_okq q := List.forall_mem_cons.mpr ⟨lw_p32, List.forall_mem_cons.mpr ⟨lw_p33, List.forall_mem_cons.mpr ⟨lw_p34, List.forall_mem_cons.mpr ⟨lw_p35, List.forall_mem_cons.mpr ⟨lw_p36, List.forall_mem_cons.mpr ⟨lw_p37, List.forall_mem_cons.mpr ⟨lw_p38, List.forall_mem_cons.mpr ⟨lw_p39, List.forall_mem_cons.mpr ⟨lw_p40, List.forall_mem_cons.mpr ⟨lw_p41, List.forall_mem_cons.mpr ⟨lw_p42, List.forall_mem_cons.mpr ⟨lw_p43, List.forall_mem_cons.mpr ⟨lw_p44, fun _ h => absurd h List.not_mem_nil⟩⟩⟩⟩⟩⟩⟩⟩⟩⟩⟩⟩⟩
def lw_privs : List (MethodName × Nat) := lw_privs_1 ++ (lw_privs_2 ++ (lw_privs_3))
def lw_tbl : List Cond := k2_sels lw_privs ++ tables_1
theorem lw_privs_ok : ∀ q ∈ lw_privs, lw_okq q := by
  show ∀ q ∈ lw_privs_1 ++ (lw_privs_2 ++ (lw_privs_3)), lw_okq q
  exact List.forall_mem_append.mpr ⟨lw_r1, List.forall_mem_append.mpr ⟨lw_r2, lw_r3⟩⟩
end
section
/-! names: by program out of the Statement -/
def F_H : u_T := fun k => match k with
  | 0 => ("HiddenRows", "row", "LHiddenRows$Row;", true)
  | 1 => ("HiddenRows", "states", "LHiddenRows$States;", true)
  | 2 => ("HiddenRows", "sums", "LHiddenRows$WaySums;", true)
  | 3 => ("HiddenRows", "counts", "LHiddenRows$WaySums;", true)
  | 4 => ("HiddenRows", "bests", "LHiddenRows$BestWays;", true)
  | 5 => ("HiddenRows", "drawing", "LHiddenRows$Drawing;", true)
  | 6 => ("HiddenRows", "kinds", "LHiddenRows$Kinds;", true)
  | _ => ("HiddenRows", "tables", "LHiddenRows$TreeTables;", true)
def t_H : Nat → FieldType := fun k => match k with
  | 0 => (.object "HiddenRows$Row")
  | 1 => (.object "HiddenRows$States")
  | 2 => (.object "HiddenRows$WaySums")
  | 3 => (.object "HiddenRows$WaySums")
  | 4 => (.object "HiddenRows$BestWays")
  | 5 => (.object "HiddenRows$Drawing")
  | 6 => (.object "HiddenRows$Kinds")
  | _ => (.object "HiddenRows$TreeTables")
def F_Ro : u_T := fun k => match k with
  | 0 => ("HiddenRows$Row", "signs", "[I", true)
  | 1 => ("HiddenRows$Row", "held", "[I", true)
  | _ => ("HiddenRows$Row", "length", "I", false)
def t_Ro : Nat → FieldType := fun k => match k with
  | 0 => (.array .int)
  | 1 => (.array .int)
  | _ => .int
def F_St : u_T := fun k => match k with
  | 0 => ("HiddenRows$States", "weights", "[[I", true)
  | 1 => ("HiddenRows$States", "moves", "[[I", true)
  | _ => ("HiddenRows$States", "count", "I", false)
def t_St : Nat → FieldType := fun k => match k with
  | 0 => (.array (.array .int))
  | 1 => (.array (.array .int))
  | _ => .int
def F_Ws : u_T := fun k => match k with
  | 0 => ("HiddenRows$WaySums", "row", "LHiddenRows$Row;", true)
  | 1 => ("HiddenRows$WaySums", "states", "LHiddenRows$States;", true)
  | 2 => ("HiddenRows$WaySums", "most", "I", true)
  | 3 => ("HiddenRows$WaySums", "shown", "[[J", true)
  | 4 => ("HiddenRows$WaySums", "from", "[[J", true)
  | 5 => ("HiddenRows$WaySums", "leaving", "[[J", true)
  | 6 => ("HiddenRows$WaySums", "upTo", "[[J", true)
  | 7 => ("HiddenRows$WaySums", "entering", "[[J", true)
  | _ => ("HiddenRows$WaySums", "known", "Z", false)
def t_Ws : Nat → FieldType := fun k => match k with
  | 0 => (.object "HiddenRows$Row")
  | 1 => (.object "HiddenRows$States")
  | 2 => .int
  | 3 => (.array (.array .long))
  | 4 => (.array (.array .long))
  | 5 => (.array (.array .long))
  | 6 => (.array (.array .long))
  | 7 => (.array (.array .long))
  | _ => .boolean
def F_Bw : u_T := fun k => match k with
  | 0 => ("HiddenRows$BestWays", "row", "LHiddenRows$Row;", true)
  | 1 => ("HiddenRows$BestWays", "states", "LHiddenRows$States;", true)
  | 2 => ("HiddenRows$BestWays", "sums", "LHiddenRows$WaySums;", true)
  | 3 => ("HiddenRows$BestWays", "ends", "[LHiddenRows$WayList;", true)
  | 4 => ("HiddenRows$BestWays", "whole", "LHiddenRows$WayList;", true)
  | _ => ("HiddenRows$BestWays", "known", "Z", false)
def t_Bw : Nat → FieldType := fun k => match k with
  | 0 => (.object "HiddenRows$Row")
  | 1 => (.object "HiddenRows$States")
  | 2 => (.object "HiddenRows$WaySums")
  | 3 => (.array (.object "HiddenRows$WayList"))
  | 4 => (.object "HiddenRows$WayList")
  | _ => .boolean
def F_Wl : u_T := fun k => match k with
  | 0 => ("HiddenRows$WayList", "weights", "[J", true)
  | 1 => ("HiddenRows$WayList", "told", "[I", true)
  | _ => ("HiddenRows$WayList", "size", "I", false)
def t_Wl : Nat → FieldType := fun k => match k with
  | 0 => (.array .long)
  | 1 => (.array .int)
  | _ => .int
def F_Dr : u_T := fun k => match k with
  | 0 => ("HiddenRows$Drawing", "row", "LHiddenRows$Row;", true)
  | 1 => ("HiddenRows$Drawing", "states", "LHiddenRows$States;", true)
  | 2 => ("HiddenRows$Drawing", "sums", "LHiddenRows$WaySums;", true)
  | 3 => ("HiddenRows$Drawing", "closed", "J", false)
  | 4 => ("HiddenRows$Drawing", "openState", "I", false)
  | 5 => ("HiddenRows$Drawing", "openBegin", "I", false)
  | 6 => ("HiddenRows$Drawing", "ending", "J", false)
  | 7 => ("HiddenRows$Drawing", "told", "I", false)
  | _ => ("HiddenRows$Drawing", "known", "Z", false)
def t_Dr : Nat → FieldType := fun k => match k with
  | 0 => (.object "HiddenRows$Row")
  | 1 => (.object "HiddenRows$States")
  | 2 => (.object "HiddenRows$WaySums")
  | 3 => .long
  | 4 => .int
  | 5 => .int
  | 6 => .long
  | 7 => .int
  | _ => .boolean
def F_Ki : u_T := fun k => match k with
  | 0 => ("HiddenRows$Kinds", "rules", "[[I", true)
  | 1 => ("HiddenRows$Kinds", "leaves", "[[I", true)
  | _ => ("HiddenRows$Kinds", "count", "I", false)
def t_Ki : Nat → FieldType := fun k => match k with
  | 0 => (.array (.array .int))
  | 1 => (.array (.array .int))
  | _ => .int
def F_Tt : u_T := fun k => match k with
  | 0 => ("HiddenRows$TreeTables", "row", "LHiddenRows$Row;", true)
  | 1 => ("HiddenRows$TreeTables", "kinds", "LHiddenRows$Kinds;", true)
  | 2 => ("HiddenRows$TreeTables", "sum", "[[J", true)
  | 3 => ("HiddenRows$TreeTables", "count", "[[J", true)
  | 4 => ("HiddenRows$TreeTables", "best", "[[J", true)
  | 5 => ("HiddenRows$TreeTables", "having", "[[J", true)
  | 6 => ("HiddenRows$TreeTables", "waitingKinds", "[I", true)
  | 7 => ("HiddenRows$TreeTables", "waitingSpans", "[I", true)
  | 8 => ("HiddenRows$TreeTables", "waiting", "I", false)
  | _ => ("HiddenRows$TreeTables", "known", "Z", false)
def t_Tt : Nat → FieldType := fun k => match k with
  | 0 => (.object "HiddenRows$Row")
  | 1 => (.object "HiddenRows$Kinds")
  | 2 => (.array (.array .long))
  | 3 => (.array (.array .long))
  | 4 => (.array (.array .long))
  | 5 => (.array (.array .long))
  | 6 => (.array .int)
  | 7 => (.array .int)
  | 8 => .int
  | _ => .boolean
def F_Mo : u_T := fun k => match k with
  | 0 => ("HiddenRowsModel", "states", "I", false)
  | 1 => ("HiddenRowsModel", "weights", "[I", true)
  | 2 => ("HiddenRowsModel", "moves", "[I", true)
  | 3 => ("HiddenRowsModel", "kinds", "I", false)
  | 4 => ("HiddenRowsModel", "rules", "[I", true)
  | 5 => ("HiddenRowsModel", "leaves", "[I", true)
  | 6 => ("HiddenRowsModel", "places", "I", false)
  | 7 => ("HiddenRowsModel", "signs", "[I", true)
  | 8 => ("HiddenRowsModel", "held", "[I", true)
  | 9 => ("HiddenRowsModel", "known", "Z", false)
  | 10 => ("HiddenRowsModel", "hasDrawn", "Z", false)
  | 11 => ("HiddenRowsModel", "way", "[I", true)
  | 12 => ("HiddenRowsModel", "total", "J", false)
  | 13 => ("HiddenRowsModel", "ways", "I", false)
  | 14 => ("HiddenRowsModel", "shares", "[J", true)
  | 15 => ("HiddenRowsModel", "begins", "[J", true)
  | 16 => ("HiddenRowsModel", "pairs", "[J", true)
  | 17 => ("HiddenRowsModel", "kept", "I", false)
  | 18 => ("HiddenRowsModel", "keptWeight", "[J", true)
  | 19 => ("HiddenRowsModel", "keptWay", "[I", true)
  | 20 => ("HiddenRowsModel", "drawn", "[I", true)
  | 21 => ("HiddenRowsModel", "sums", "[J", true)
  | 22 => ("HiddenRowsModel", "counts", "[J", true)
  | 23 => ("HiddenRowsModel", "bests", "[J", true)
  | 24 => ("HiddenRowsModel", "tellA", "[I", true)
  | 25 => ("HiddenRowsModel", "tellB", "[I", true)
  | _ => ("HiddenRowsModel", "tellK", "[I", true)
def t_Mo : Nat → FieldType := fun k => match k with
  | 0 => .int
  | 1 => (.array .int)
  | 2 => (.array .int)
  | 3 => .int
  | 4 => (.array .int)
  | 5 => (.array .int)
  | 6 => .int
  | 7 => (.array .int)
  | 8 => (.array .int)
  | 9 => .boolean
  | 10 => .boolean
  | 11 => (.array .int)
  | 12 => .long
  | 13 => .int
  | 14 => (.array .long)
  | 15 => (.array .long)
  | 16 => (.array .long)
  | 17 => .int
  | 18 => (.array .long)
  | 19 => (.array .int)
  | 20 => (.array .int)
  | 21 => (.array .long)
  | 22 => (.array .long)
  | 23 => (.array .long)
  | 24 => (.array .int)
  | 25 => (.array .int)
  | _ => (.array .int)
abbrev classes : List vw_C := [("HiddenRows", F_H, 8), ("HiddenRows$Row", F_Ro, 3), ("HiddenRows$States", F_St, 3), ("HiddenRows$WaySums", F_Ws, 9), ("HiddenRows$BestWays", F_Bw, 6), ("HiddenRows$WayList", F_Wl, 3), ("HiddenRows$Drawing", F_Dr, 9), ("HiddenRows$Kinds", F_Ki, 3), ("HiddenRows$TreeTables", F_Tt, 10), ("HiddenRowsModel", F_Mo, 27)]
/-- the component types of the arrays -/
abbrev ab_tys : List FieldType := [.int, .long, .array .int, .array .long, .object "HiddenRows$WayList"]
abbrev ab_nf : List (String × Nat × String × String × String × String) := []
abbrev ab_nm : List (String × Nat × MethodName × String) := [("HiddenRows", 11, ⟨"HiddenRows$Row", "<init>", "()V"⟩, "HiddenRows"), ("HiddenRows", 18, ⟨"HiddenRows$States", "<init>", "()V"⟩, "HiddenRows"), ("HiddenRows$BestWays", 17, ⟨"HiddenRows$WayList", "<init>", "()V"⟩, "HiddenRows"), ("HiddenRows", 56, ⟨"HiddenRows$Kinds", "<init>", "()V"⟩, "HiddenRows")]
abbrev ab_ao : List String := ["HiddenRows$WayList"]
abbrev ab_aa : List FieldType := [.int, .long]
def ab_tbl : List Cond := lw_tbl.filter goodWord
theorem ab_mem {w : Cond} (h : w ∈ lw_tbl) (hg : goodWord w = true) : w ∈ ab_tbl := List.mem_filter.mpr ⟨h, hg⟩
theorem ab_good : GoodIn ab_tbl ab_tbl := fun w hw => ⟨hw, good_of_word (List.mem_filter.mp hw).2⟩
abbrev b_H_init : ByteArray := prog_1_method_1_code
abbrev y_H_init : MethodName := ⟨"HiddenRows", "<init>", "()V"⟩
abbrev b_Ro_init : ByteArray := prog_5_method_1_code
abbrev y_Ro_init : MethodName := ⟨"HiddenRows$Row", "<init>", "()V"⟩
abbrev b_St_init : ByteArray := prog_6_method_1_code
abbrev y_St_init : MethodName := ⟨"HiddenRows$States", "<init>", "()V"⟩
abbrev b_Ws_init : ByteArray := prog_9_method_1_code
abbrev y_Ws_init : MethodName := ⟨"HiddenRows$WaySums", "<init>", "(LHiddenRows$Row;LHiddenRows$States;I)V"⟩
abbrev b_Bw_init : ByteArray := prog_2_method_1_code
abbrev y_Bw_init : MethodName := ⟨"HiddenRows$BestWays", "<init>", "(LHiddenRows$Row;LHiddenRows$States;LHiddenRows$WaySums;)V"⟩
abbrev b_Wl_init : ByteArray := prog_8_method_1_code
abbrev y_Wl_init : MethodName := ⟨"HiddenRows$WayList", "<init>", "()V"⟩
abbrev b_Dr_init : ByteArray := prog_3_method_1_code
abbrev y_Dr_init : MethodName := ⟨"HiddenRows$Drawing", "<init>", "(LHiddenRows$Row;LHiddenRows$States;LHiddenRows$WaySums;)V"⟩
abbrev b_Ki_init : ByteArray := prog_4_method_1_code
abbrev y_Ki_init : MethodName := ⟨"HiddenRows$Kinds", "<init>", "()V"⟩
abbrev b_Tt_init : ByteArray := prog_7_method_1_code
abbrev y_Tt_init : MethodName := ⟨"HiddenRows$TreeTables", "<init>", "(LHiddenRows$Row;LHiddenRows$Kinds;)V"⟩
abbrev b_H_state : ByteArray := prog_1_method_2_code
abbrev y_H_state : MethodName := ⟨"HiddenRows", "state", "()I"⟩
abbrev b_H_forgetWays : ByteArray := prog_1_method_26_code
abbrev y_H_forgetWays : MethodName := ⟨"HiddenRows", "forgetWays", "()V"⟩
abbrev b_St_addOne : ByteArray := prog_6_method_3_code
abbrev y_St_addOne : MethodName := ⟨"HiddenRows$States", "addOne", "()I"⟩
abbrev b_H_weight : ByteArray := prog_1_method_3_code
abbrev y_H_weight : MethodName := ⟨"HiddenRows", "weight", "(III)I"⟩
abbrev b_St_has : ByteArray := prog_6_method_2_code
abbrev y_St_has : MethodName := ⟨"HiddenRows$States", "has", "(I)Z"⟩
abbrev b_H_isWeight : ByteArray := prog_1_method_28_code
abbrev y_H_isWeight : MethodName := ⟨"HiddenRows", "isWeight", "(I)Z"⟩
abbrev b_H_move : ByteArray := prog_1_method_4_code
abbrev y_H_move : MethodName := ⟨"HiddenRows", "move", "(III)I"⟩
abbrev b_H_kind : ByteArray := prog_1_method_5_code
abbrev y_H_kind : MethodName := ⟨"HiddenRows", "kind", "()I"⟩
abbrev b_H_forgetTrees : ByteArray := prog_1_method_27_code
abbrev y_H_forgetTrees : MethodName := ⟨"HiddenRows", "forgetTrees", "()V"⟩
abbrev b_H_rule : ByteArray := prog_1_method_6_code
abbrev y_H_rule : MethodName := ⟨"HiddenRows", "rule", "(IIII)I"⟩
abbrev b_Ki_has : ByteArray := prog_4_method_2_code
abbrev y_Ki_has : MethodName := ⟨"HiddenRows$Kinds", "has", "(I)Z"⟩
abbrev b_Ki_parts : ByteArray := prog_4_method_3_code
abbrev y_Ki_parts : MethodName := ⟨"HiddenRows$Kinds", "parts", "(II)I"⟩
abbrev b_H_leaf : ByteArray := prog_1_method_7_code
abbrev y_H_leaf : MethodName := ⟨"HiddenRows", "leaf", "(III)I"⟩
abbrev b_H_sign : ByteArray := prog_1_method_8_code
abbrev y_H_sign : MethodName := ⟨"HiddenRows", "sign", "(I)I"⟩
abbrev b_Ro_append : ByteArray := prog_5_method_3_code
abbrev y_Ro_append : MethodName := ⟨"HiddenRows$Row", "append", "(I)V"⟩
abbrev b_H_clear : ByteArray := prog_1_method_9_code
abbrev y_H_clear : MethodName := ⟨"HiddenRows", "clear", "()I"⟩
abbrev b_H_hold : ByteArray := prog_1_method_10_code
abbrev y_H_hold : MethodName := ⟨"HiddenRows", "hold", "(II)I"⟩
abbrev b_Ro_has : ByteArray := prog_5_method_2_code
abbrev y_Ro_has : MethodName := ⟨"HiddenRows$Row", "has", "(I)Z"⟩
abbrev b_H_total : ByteArray := prog_1_method_11_code
abbrev y_H_total : MethodName := ⟨"HiddenRows", "total", "()J"⟩
abbrev b_Ws_whole : ByteArray := prog_9_method_2_code
abbrev y_Ws_whole : MethodName := ⟨"HiddenRows$WaySums", "whole", "()J"⟩
abbrev b_Ws_refresh : ByteArray := prog_9_method_8_code
abbrev y_Ws_refresh : MethodName := ⟨"HiddenRows$WaySums", "refresh", "()V"⟩
abbrev b_Ws_showPlaces : ByteArray := prog_9_method_9_code
abbrev y_Ws_showPlaces : MethodName := ⟨"HiddenRows$WaySums", "showPlaces", "()V"⟩
abbrev b_Ws_showOf : ByteArray := prog_9_method_10_code
abbrev y_Ws_showOf : MethodName := ⟨"HiddenRows$WaySums", "showOf", "(II)J"⟩
abbrev b_Ws_cut : ByteArray := prog_9_method_16_code
abbrev y_Ws_cut : MethodName := ⟨"HiddenRows$WaySums", "cut", "(I)J"⟩
abbrev b_Ws_sumFromBehind : ByteArray := prog_9_method_11_code
abbrev y_Ws_sumFromBehind : MethodName := ⟨"HiddenRows$WaySums", "sumFromBehind", "()V"⟩
abbrev b_Ws_longerThan : ByteArray := prog_9_method_6_code
abbrev y_Ws_longerThan : MethodName := ⟨"HiddenRows$WaySums", "longerThan", "(III)J"⟩
abbrev b_Ws_segment : ByteArray := prog_9_method_7_code
abbrev y_Ws_segment : MethodName := ⟨"HiddenRows$WaySums", "segment", "(III)J"⟩
abbrev b_Ws_movedOutOf : ByteArray := prog_9_method_12_code
abbrev y_Ws_movedOutOf : MethodName := ⟨"HiddenRows$WaySums", "movedOutOf", "(II)J"⟩
abbrev b_Ws_sumFromAhead : ByteArray := prog_9_method_13_code
abbrev y_Ws_sumFromAhead : MethodName := ⟨"HiddenRows$WaySums", "sumFromAhead", "()V"⟩
abbrev b_Ws_movedInto : ByteArray := prog_9_method_14_code
abbrev y_Ws_movedInto : MethodName := ⟨"HiddenRows$WaySums", "movedInto", "(II)J"⟩
abbrev b_Ws_endedBefore : ByteArray := prog_9_method_15_code
abbrev y_Ws_endedBefore : MethodName := ⟨"HiddenRows$WaySums", "endedBefore", "(II)J"⟩
abbrev b_H_ways : ByteArray := prog_1_method_12_code
abbrev y_H_ways : MethodName := ⟨"HiddenRows", "ways", "()I"⟩
abbrev b_H_share : ByteArray := prog_1_method_13_code
abbrev y_H_share : MethodName := ⟨"HiddenRows", "share", "(III)J"⟩
abbrev b_H_isPart : ByteArray := prog_1_method_29_code
abbrev y_H_isPart : MethodName := ⟨"HiddenRows", "isPart", "(I)Z"⟩
abbrev b_Ws_over : ByteArray := prog_9_method_3_code
abbrev y_Ws_over : MethodName := ⟨"HiddenRows$WaySums", "over", "(II)J"⟩
abbrev b_H_lowestTerms : ByteArray := prog_1_method_30_code
abbrev y_H_lowestTerms : MethodName := ⟨"HiddenRows", "lowestTerms", "(JJI)J"⟩
abbrev b_H_commonDivisor : ByteArray := prog_1_method_31_code
abbrev y_H_commonDivisor : MethodName := ⟨"HiddenRows", "commonDivisor", "(JJ)J"⟩
abbrev b_H_begin : ByteArray := prog_1_method_14_code
abbrev y_H_begin : MethodName := ⟨"HiddenRows", "begin", "(III)J"⟩
abbrev b_Ws_beginning : ByteArray := prog_9_method_4_code
abbrev y_Ws_beginning : MethodName := ⟨"HiddenRows$WaySums", "beginning", "(II)J"⟩
abbrev b_H_pair : ByteArray := prog_1_method_15_code
abbrev y_H_pair : MethodName := ⟨"HiddenRows", "pair", "(IIII)J"⟩
abbrev b_Ws_moving : ByteArray := prog_9_method_5_code
abbrev y_Ws_moving : MethodName := ⟨"HiddenRows$WaySums", "moving", "(III)J"⟩
abbrev b_H_top : ByteArray := prog_1_method_16_code
abbrev y_H_top : MethodName := ⟨"HiddenRows", "top", "(I)I"⟩
abbrev b_H_best : ByteArray := prog_1_method_17_code
abbrev y_H_best : MethodName := ⟨"HiddenRows", "best", "(I)J"⟩
abbrev b_Bw_list : ByteArray := prog_2_method_2_code
abbrev y_Bw_list : MethodName := ⟨"HiddenRows$BestWays", "list", "()LHiddenRows$WayList;"⟩
abbrev b_Bw_listEnds : ByteArray := prog_2_method_4_code
abbrev y_Bw_listEnds : MethodName := ⟨"HiddenRows$BestWays", "listEnds", "(II)V"⟩
abbrev b_Bw_endsFrom : ByteArray := prog_2_method_7_code
abbrev y_Bw_endsFrom : MethodName := ⟨"HiddenRows$BestWays", "endsFrom", "(II)LHiddenRows$WayList;"⟩
abbrev b_Wl_offer : ByteArray := prog_8_method_2_code
abbrev y_Wl_offer : MethodName := ⟨"HiddenRows$WayList", "offer", "(JI)Z"⟩
abbrev b_Wl_isBetter : ByteArray := prog_8_method_3_code
abbrev y_Wl_isBetter : MethodName := ⟨"HiddenRows$WayList", "isBetter", "(JII)Z"⟩
abbrev b_Bw_offerMoves : ByteArray := prog_2_method_5_code
abbrev y_Bw_offerMoves : MethodName := ⟨"HiddenRows$BestWays", "offerMoves", "(LHiddenRows$WayList;JIII)V"⟩
abbrev b_Bw_offerAll : ByteArray := prog_2_method_6_code
abbrev y_Bw_offerAll : MethodName := ⟨"HiddenRows$BestWays", "offerAll", "(LHiddenRows$WayList;JILHiddenRows$WayList;)V"⟩
abbrev b_Bw_listWhole : ByteArray := prog_2_method_3_code
abbrev y_Bw_listWhole : MethodName := ⟨"HiddenRows$BestWays", "listWhole", "()V"⟩
abbrev b_H_bestAt : ByteArray := prog_1_method_18_code
abbrev y_H_bestAt : MethodName := ⟨"HiddenRows", "bestAt", "(II)I"⟩
abbrev b_Ro_toldAt : ByteArray := prog_5_method_4_code
abbrev y_Ro_toldAt : MethodName := ⟨"HiddenRows$Row", "toldAt", "(II)I"⟩
abbrev b_H_drawn : ByteArray := prog_1_method_19_code
abbrev y_H_drawn : MethodName := ⟨"HiddenRows", "drawn", "(I)J"⟩
abbrev b_Dr_spread : ByteArray := prog_3_method_2_code
abbrev y_Dr_spread : MethodName := ⟨"HiddenRows$Drawing", "spread", "(I)J"⟩
abbrev b_Dr_draw : ByteArray := prog_3_method_3_code
abbrev y_Dr_draw : MethodName := ⟨"HiddenRows$Drawing", "draw", "(J)J"⟩
abbrev b_Dr_openSegment : ByteArray := prog_3_method_8_code
abbrev y_Dr_openSegment : MethodName := ⟨"HiddenRows$Drawing", "openSegment", "(I)J"⟩
abbrev b_Dr_tellPlace : ByteArray := prog_3_method_4_code
abbrev y_Dr_tellPlace : MethodName := ⟨"HiddenRows$Drawing", "tellPlace", "(IJ)J"⟩
abbrev b_Dr_sumTelling : ByteArray := prog_3_method_5_code
abbrev y_Dr_sumTelling : MethodName := ⟨"HiddenRows$Drawing", "sumTelling", "(II)J"⟩
abbrev b_Dr_closing : ByteArray := prog_3_method_7_code
abbrev y_Dr_closing : MethodName := ⟨"HiddenRows$Drawing", "closing", "(II)J"⟩
abbrev b_Dr_take : ByteArray := prog_3_method_6_code
abbrev y_Dr_take : MethodName := ⟨"HiddenRows$Drawing", "take", "(II)V"⟩
abbrev b_H_drawnAt : ByteArray := prog_1_method_20_code
abbrev y_H_drawnAt : MethodName := ⟨"HiddenRows", "drawnAt", "(I)I"⟩
abbrev b_H_trees : ByteArray := prog_1_method_21_code
abbrev y_H_trees : MethodName := ⟨"HiddenRows", "trees", "(I)J"⟩
abbrev b_Tt_sumOfAll : ByteArray := prog_7_method_2_code
abbrev y_Tt_sumOfAll : MethodName := ⟨"HiddenRows$TreeTables", "sumOfAll", "(I)J"⟩
abbrev b_Tt_refresh : ByteArray := prog_7_method_6_code
abbrev y_Tt_refresh : MethodName := ⟨"HiddenRows$TreeTables", "refresh", "()V"⟩
abbrev b_Tt_fill : ByteArray := prog_7_method_7_code
abbrev y_Tt_fill : MethodName := ⟨"HiddenRows$TreeTables", "fill", "(III)V"⟩
abbrev b_Tt_spanOf : ByteArray := prog_7_method_5_code
abbrev y_Tt_spanOf : MethodName := ⟨"HiddenRows$TreeTables", "spanOf", "(II)I"⟩
abbrev b_Ki_leafOf : ByteArray := prog_4_method_4_code
abbrev y_Ki_leafOf : MethodName := ⟨"HiddenRows$Kinds", "leafOf", "(II)I"⟩
abbrev b_Tt_addSplit : ByteArray := prog_7_method_8_code
abbrev y_Tt_addSplit : MethodName := ⟨"HiddenRows$TreeTables", "addSplit", "(IIII)V"⟩
abbrev b_H_treeCount : ByteArray := prog_1_method_22_code
abbrev y_H_treeCount : MethodName := ⟨"HiddenRows", "treeCount", "(I)J"⟩
abbrev b_Tt_countOfAll : ByteArray := prog_7_method_3_code
abbrev y_Tt_countOfAll : MethodName := ⟨"HiddenRows$TreeTables", "countOfAll", "(I)J"⟩
abbrev b_H_treeBest : ByteArray := prog_1_method_23_code
abbrev y_H_treeBest : MethodName := ⟨"HiddenRows", "treeBest", "(I)J"⟩
abbrev b_Tt_bestOfAll : ByteArray := prog_7_method_4_code
abbrev y_Tt_bestOfAll : MethodName := ⟨"HiddenRows$TreeTables", "bestOfAll", "(I)J"⟩
abbrev b_H_treeAt : ByteArray := prog_1_method_24_code
abbrev y_H_treeAt : MethodName := ⟨"HiddenRows", "treeAt", "(II)I"⟩
abbrev b_Tt_bestTells : ByteArray := prog_7_method_9_code
abbrev y_Tt_bestTells : MethodName := ⟨"HiddenRows$TreeTables", "bestTells", "(II)I"⟩
abbrev b_Tt_push : ByteArray := prog_7_method_10_code
abbrev y_Tt_push : MethodName := ⟨"HiddenRows$TreeTables", "push", "(II)V"⟩
abbrev b_Tt_tellNode : ByteArray := prog_7_method_11_code
abbrev y_Tt_tellNode : MethodName := ⟨"HiddenRows$TreeTables", "tellNode", "(II)I"⟩
abbrev b_Tt_bestParts : ByteArray := prog_7_method_12_code
abbrev y_Tt_bestParts : MethodName := ⟨"HiddenRows$TreeTables", "bestParts", "(IIII)I"⟩
abbrev b_H_span : ByteArray := prog_1_method_25_code
abbrev y_H_span : MethodName := ⟨"HiddenRows", "span", "(IIIII)J"⟩
abbrev b_Tt_sumWith : ByteArray := prog_7_method_13_code
abbrev y_Tt_sumWith : MethodName := ⟨"HiddenRows$TreeTables", "sumWith", "(IIII)J"⟩
abbrev b_Tt_addAround : ByteArray := prog_7_method_14_code
abbrev y_Tt_addAround : MethodName := ⟨"HiddenRows$TreeTables", "addAround", "(IIII)V"⟩
abbrev b_Tt_addProducts : ByteArray := prog_7_method_15_code
abbrev y_Tt_addProducts : MethodName := ⟨"HiddenRows$TreeTables", "addProducts", "(I[[JI[[JI)V"⟩
abbrev b_Mo_init : ByteArray := prog_11_method_1_code
abbrev y_Mo_init : MethodName := ⟨"HiddenRowsModel", "<init>", "()V"⟩
abbrev b_Mo_state : ByteArray := prog_11_method_7_code
abbrev y_Mo_state : MethodName := ⟨"HiddenRowsModel", "state", "()I"⟩
abbrev b_Mo_change : ByteArray := prog_11_method_2_code
abbrev y_Mo_change : MethodName := ⟨"HiddenRowsModel", "change", "()V"⟩
abbrev b_Mo_weight : ByteArray := prog_11_method_8_code
abbrev y_Mo_weight : MethodName := ⟨"HiddenRowsModel", "weight", "(III)I"⟩
abbrev b_Mo_isState : ByteArray := prog_11_method_3_code
abbrev y_Mo_isState : MethodName := ⟨"HiddenRowsModel", "isState", "(I)Z"⟩
abbrev b_Mo_isWeight : ByteArray := prog_11_method_6_code
abbrev y_Mo_isWeight : MethodName := ⟨"HiddenRowsModel", "isWeight", "(I)Z"⟩
abbrev b_Mo_move : ByteArray := prog_11_method_9_code
abbrev y_Mo_move : MethodName := ⟨"HiddenRowsModel", "move", "(III)I"⟩
abbrev b_Mo_kind : ByteArray := prog_11_method_10_code
abbrev y_Mo_kind : MethodName := ⟨"HiddenRowsModel", "kind", "()I"⟩
abbrev b_Mo_rule : ByteArray := prog_11_method_11_code
abbrev y_Mo_rule : MethodName := ⟨"HiddenRowsModel", "rule", "(IIII)I"⟩
abbrev b_Mo_isKind : ByteArray := prog_11_method_4_code
abbrev y_Mo_isKind : MethodName := ⟨"HiddenRowsModel", "isKind", "(I)Z"⟩
abbrev b_Mo_leaf : ByteArray := prog_11_method_12_code
abbrev y_Mo_leaf : MethodName := ⟨"HiddenRowsModel", "leaf", "(III)I"⟩
abbrev b_Mo_sign : ByteArray := prog_11_method_13_code
abbrev y_Mo_sign : MethodName := ⟨"HiddenRowsModel", "sign", "(I)I"⟩
abbrev b_Mo_clear : ByteArray := prog_11_method_14_code
abbrev y_Mo_clear : MethodName := ⟨"HiddenRowsModel", "clear", "()I"⟩
abbrev b_Mo_hold : ByteArray := prog_11_method_15_code
abbrev y_Mo_hold : MethodName := ⟨"HiddenRowsModel", "hold", "(II)I"⟩
abbrev b_Mo_isPlace : ByteArray := prog_11_method_5_code
abbrev y_Mo_isPlace : MethodName := ⟨"HiddenRowsModel", "isPlace", "(I)Z"⟩
abbrev b_Mo_total : ByteArray := prog_11_method_24_code
abbrev y_Mo_total : MethodName := ⟨"HiddenRowsModel", "total", "()J"⟩
abbrev b_Mo_know : ByteArray := prog_11_method_22_code
abbrev y_Mo_know : MethodName := ⟨"HiddenRowsModel", "know", "()V"⟩
abbrev b_Mo_next : ByteArray := prog_11_method_20_code
abbrev y_Mo_next : MethodName := ⟨"HiddenRowsModel", "next", "(Z)Z"⟩
abbrev b_Mo_canBe : ByteArray := prog_11_method_18_code
abbrev y_Mo_canBe : MethodName := ⟨"HiddenRowsModel", "canBe", "(II)Z"⟩
abbrev b_Mo_stay : ByteArray := prog_11_method_17_code
abbrev y_Mo_stay : MethodName := ⟨"HiddenRowsModel", "stay", "(I)I"⟩
abbrev b_Mo_weightOf : ByteArray := prog_11_method_19_code
abbrev y_Mo_weightOf : MethodName := ⟨"HiddenRowsModel", "weightOf", "()J"⟩
abbrev b_Mo_show : ByteArray := prog_11_method_16_code
abbrev y_Mo_show : MethodName := ⟨"HiddenRowsModel", "show", "(II)I"⟩
abbrev b_Mo_add : ByteArray := prog_11_method_23_code
abbrev y_Mo_add : MethodName := ⟨"HiddenRowsModel", "add", "(J)V"⟩
abbrev b_Mo_keep : ByteArray := prog_11_method_21_code
abbrev y_Mo_keep : MethodName := ⟨"HiddenRowsModel", "keep", "(J)V"⟩
abbrev b_Mo_ways : ByteArray := prog_11_method_25_code
abbrev y_Mo_ways : MethodName := ⟨"HiddenRowsModel", "ways", "()I"⟩
abbrev b_Mo_share : ByteArray := prog_11_method_28_code
abbrev y_Mo_share : MethodName := ⟨"HiddenRowsModel", "share", "(III)J"⟩
abbrev b_Mo_lowest : ByteArray := prog_11_method_27_code
abbrev y_Mo_lowest : MethodName := ⟨"HiddenRowsModel", "lowest", "(JJI)J"⟩
abbrev b_Mo_common : ByteArray := prog_11_method_26_code
abbrev y_Mo_common : MethodName := ⟨"HiddenRowsModel", "common", "(JJ)J"⟩
abbrev b_Mo_begin : ByteArray := prog_11_method_29_code
abbrev y_Mo_begin : MethodName := ⟨"HiddenRowsModel", "begin", "(III)J"⟩
abbrev b_Mo_pair : ByteArray := prog_11_method_30_code
abbrev y_Mo_pair : MethodName := ⟨"HiddenRowsModel", "pair", "(IIII)J"⟩
abbrev b_Mo_top : ByteArray := prog_11_method_31_code
abbrev y_Mo_top : MethodName := ⟨"HiddenRowsModel", "top", "(I)I"⟩
abbrev b_Mo_best : ByteArray := prog_11_method_32_code
abbrev y_Mo_best : MethodName := ⟨"HiddenRowsModel", "best", "(I)J"⟩
abbrev b_Mo_bestAt : ByteArray := prog_11_method_33_code
abbrev y_Mo_bestAt : MethodName := ⟨"HiddenRowsModel", "bestAt", "(II)I"⟩
abbrev b_Mo_drawn : ByteArray := prog_11_method_34_code
abbrev y_Mo_drawn : MethodName := ⟨"HiddenRowsModel", "drawn", "(I)J"⟩
abbrev b_Mo_drawnAt : ByteArray := prog_11_method_35_code
abbrev y_Mo_drawnAt : MethodName := ⟨"HiddenRowsModel", "drawnAt", "(I)I"⟩
abbrev b_Mo_trees : ByteArray := prog_11_method_41_code
abbrev y_Mo_trees : MethodName := ⟨"HiddenRowsModel", "trees", "(I)J"⟩
abbrev b_Mo_findTrees : ByteArray := prog_11_method_38_code
abbrev y_Mo_findTrees : MethodName := ⟨"HiddenRowsModel", "findTrees", "(III)V"⟩
abbrev b_Mo_findSpan : ByteArray := prog_11_method_39_code
abbrev y_Mo_findSpan : MethodName := ⟨"HiddenRowsModel", "findSpan", "(III)V"⟩
abbrev b_Mo_at : ByteArray := prog_11_method_36_code
abbrev y_Mo_at : MethodName := ⟨"HiddenRowsModel", "at", "(III)I"⟩
abbrev b_Mo_leafOf : ByteArray := prog_11_method_37_code
abbrev y_Mo_leafOf : MethodName := ⟨"HiddenRowsModel", "leafOf", "(II)J"⟩
abbrev b_Mo_whole : ByteArray := prog_11_method_40_code
abbrev y_Mo_whole : MethodName := ⟨"HiddenRowsModel", "whole", "(I)I"⟩
abbrev b_Mo_treeCount : ByteArray := prog_11_method_42_code
abbrev y_Mo_treeCount : MethodName := ⟨"HiddenRowsModel", "treeCount", "(I)J"⟩
abbrev b_Mo_treeBest : ByteArray := prog_11_method_43_code
abbrev y_Mo_treeBest : MethodName := ⟨"HiddenRowsModel", "treeBest", "(I)J"⟩
abbrev b_Mo_treeAt : ByteArray := prog_11_method_45_code
abbrev y_Mo_treeAt : MethodName := ⟨"HiddenRowsModel", "treeAt", "(II)I"⟩
abbrev b_Mo_leastOf : ByteArray := prog_11_method_44_code
abbrev y_Mo_leastOf : MethodName := ⟨"HiddenRowsModel", "leastOf", "(III)I"⟩
abbrev b_Mo_span : ByteArray := prog_11_method_46_code
abbrev y_Mo_span : MethodName := ⟨"HiddenRowsModel", "span", "(IIIII)J"⟩
end
section
/-! THE ABSTRACT LAYER: a heap is a list of cells made since the law began; the k-th is known as k + 1, the script as 0. ab_R: the machine stands at pc with these locals, this stack, this heap, and comes to its end. One rule an instruction (a_..), one a call (a_call..), ab_con: a contract out of a walk. -/
/-- arrays of arrays of t: the tables have their class -/
def ab_AOA (t : FieldType) (U : State) : Prop := (Cond.arrayOver (.array t)).before #[] U = true
theorem ab_AOA.moved {t : FieldType} {u U : State} (hvm : u.vm.Alike U.vm) (h : ab_AOA t u) : ab_AOA t U := by
  obtain ⟨comp, c, k, h1, h2, h3, h4, h5⟩ := arrayOverA_spec h
  obtain ⟨k', hk', he⟩ := hvm.2.2 _ _ h3
  have hi : (U.vm.classes.findIdx? fun (x : Class) => match x.kind with | .array component _ => component == comp | _ => false) = some c := by
    rw [hvm.findIdx?_eq _ (fun _ => rfl)]
    exact h2
  have hkind : k'.kind = .array comp (.array t) := by rw [he]; exact h4
  have f1 : U.vm.findClass (FieldType.array t).toString = some comp := by rw [hvm.findClass]; exact h1
  have f2 : U.vm.findClass ("[" ++ (FieldType.array t).toString) = some c := by rw [hvm.findClass]; exact h5
  unfold ab_AOA Cond.before Cond.holds
  simp only [Cond.value]
  rw [f1, Option.bind_some]
  refine (congrArg (fun o : Option Nat => (o.bind (fun c => (U.vm.classes[c]?).map fun (k : Class) => match k.kind with | .array _ ty => decide (ty = FieldType.array t) && decide (U.vm.findClass ("[" ++ (FieldType.array t).toString) = some c) | _ => false) == some true)) hi).trans ?_
  simp [hk', hkind, f2]
/-- a cell: an array (number of its type in ab_tys, contents), or an object (number of its class in classes, its fields) -/
abbrev ab_C : Type := (Nat × vp_A) ⊕ (Nat × List Value)
/-- what is fixed from the law's start on: class numbers and slots; array classes; the script's address; the heap's size at the start; that heap; the script's length; the script -/
abbrev ab_E : Type := va_G × (Nat → ClassId) × Nat × Nat × Heap × Nat × (Nat → Int32)
abbrev ab_n (E : ab_E) : Nat := E.2.2.2.1
def ab_ad (E : ab_E) : Nat → Nat
  | 0 => E.2.2.1
  | k + 1 => ab_n E + k
def ab_v (E : ab_E) : Value → Value
  | .ref k => .ref (ab_ad E k)
  | .int x => .int x
  | .long x => .long x
  | .null => .null
  | .float x => .float x
  | .double x => .double x
  | .retAddr x => .retAddr x
def ab_a (E : ab_E) (x : vp_A) : vp_A := (x.1, match x.2 with
  | .inl f => .inl f
  | .inr (.inl f) => .inr (.inl f)
  | .inr (.inr (.inl f)) => .inr (.inr (.inl f))
  | .inr (.inr (.inr (.inl f))) => .inr (.inr (.inr (.inl f)))
  | .inr (.inr (.inr (.inr f))) => .inr (.inr (.inr (.inr (fun i => (f i).map (ab_ad E))))))
def ab_c (E : ab_E) : ab_C → va_E
  | .inl q => .inl (E.2.1 q.1, ab_a E q.2)
  | .inr q => .inr (q.1, q.2.map (ab_v E))
/-- the heap that stands for h -/
def ab_H (E : ab_E) (h : List ab_C) (H : Heap) : Prop :=
  H.size = ab_n E + h.length ∧ (∀ (k : Nat) (x : ab_C), h[k]? = some x → va_at E.1 classes (ab_n E + k, ab_c E x) H) ∧ ∀ q : Nat, q < ab_n E → H[q]? = E.2.2.2.2.1[q]?
/-- the tables -/
def ab_K (E : ab_E) (U : State) : Prop :=
  (∀ (c : Nat) (q : vw_C), classes[c]? = some q → u_Kn U q.1 q.2.1 q.2.2 (E.1.1 c) (E.1.2 c)) ∧ (∀ (t : Nat) (ty : FieldType), ab_tys[t]? = some ty → ArrOfT U (E.2.1 t) ty ∧ va_RA U (E.2.1 t) ty) ∧
  (∀ w : String × Nat × String × String × String × String, w ∈ ab_nf → va_Nw (.fieldLinkNest w.1 w.2.1 w.2.2.1 w.2.2.2.1 w.2.2.2.2.1 w.2.2.2.2.2) U) ∧ (∀ w : String × Nat × MethodName × String, w ∈ ab_nm → va_Nw (.methodLinkNest w.1 w.2.1 w.2.2.1 w.2.2.2) U) ∧
  (∀ C : String, C ∈ ab_ao → va_AO C U) ∧ (∀ t : FieldType, t ∈ ab_aa → ab_AOA t U) ∧
  va_X E.2.2.1 E.2.2.2.2.2.1 E.2.2.2.2.2.2 U E.2.2.2.2.1 ∧ E.2.2.1 < ab_n E
theorem ab_K.moved {E : ab_E} {s U : State} (hW : s.WarmedH U.vm) (h : ab_K E s) : ab_K E U := by
  obtain ⟨h1, h2, h3, h4, h5, h6, h7, h8⟩ := h
  have hvm := hW.alike
  exact ⟨fun c q hq => u_Kn_moved hvm (h1 c q hq), fun t ty ht => ⟨arrOfT_moved hvm (h2 t ty ht).1, (h2 t ty ht).2.moved hvm⟩, fun w hw => va_Nw.warmF hW (h3 w hw), fun w hw => va_Nw.warmM hW (h4 w hw), fun C hC => (h5 C hC).moved hvm, fun t ht => (h6 t ht).moved hvm, h7.moved hvm, h8⟩
theorem ab_K.same {E : ab_E} {s U : State} (hv : s.vm = U.vm) (h : ab_K E s) : ab_K E U := by
  obtain ⟨h1, h2, h3, h4, h5, h6, h7, h8⟩ := h
  have hvm : s.vm.Alike U.vm := hv ▸ Vm.Alike.refl s.vm
  exact ⟨fun c q hq => u_Kn_moved hvm (h1 c q hq), fun t ty ht => ⟨arrOfT_moved hvm (h2 t ty ht).1, (h2 t ty ht).2.moved hvm⟩, fun w hw => va_Nw.same rfl hv (h3 w hw), fun w hw => va_Nw.same rfl hv (h4 w hw), fun C hC => (h5 C hC).moved hvm, fun t ht => (h6 t ht).moved hvm, h7.moved hvm, h8⟩
theorem ab_K.va {E : ab_E} {s : State} (h : ab_K E s) : va_K E.1 classes [] s := ⟨h.1, fun k q h => by simp at h⟩
theorem ab_cat (E : ab_E) (v : Value) : (ab_v E v).category = v.category := by cases v <;> rfl
/-- locals: what a store leaves -/
def ab_s1 (lv : List (Nat × Value)) (i : Nat) (v : Value) : List (Nat × Value) := (i, v) :: lv.filter (fun q => !(q.1 == i) && !(q.1 + 1 == i && q.2.category == 2))
def ab_s2 (lv : List (Nat × Value)) (i : Nat) (v : Value) : List (Nat × Value) := (i, v) :: lv.filter (fun q => !(q.1 == i) && (!(q.1 == i + 1) && !(q.1 + 1 == i && q.2.category == 2)))
abbrev ab_l (E : ab_E) (lv : List (Nat × Value)) : List (Nat × Value) := lv.map (fun q => (q.1, ab_v E q.2))
theorem ab_s1_map (E : ab_E) (lv : List (Nat × Value)) (i : Nat) (v : Value) : (i, ab_v E v) :: (ab_l E lv).filter (fun q => !(q.1 == i) && !(q.1 + 1 == i && q.2.category == 2)) = ab_l E (ab_s1 lv i v) := by
  show _ = (i, ab_v E v) :: ab_l E _
  congr 1
  rw [ab_l, List.filter_map]
  congr 1
  apply List.filter_congr
  intro q _
  simp [ab_cat]
theorem ab_s2_map (E : ab_E) (lv : List (Nat × Value)) (i : Nat) (v : Value) : (i, ab_v E v) :: (ab_l E lv).filter (fun q => !(q.1 == i) && (!(q.1 == i + 1) && !(q.1 + 1 == i && q.2.category == 2))) = ab_l E (ab_s2 lv i v) := by
  show _ = (i, ab_v E v) :: ab_l E _
  congr 1
  rw [ab_l, List.filter_map]
  congr 1
  apply List.filter_congr
  intro q _
  simp [ab_cat]
theorem ab_lu {lv : List (Nat × Value)} {i : Nat} {v : Value} (h : lv.lookup i = some v) : (i, v) ∈ lv := by
  induction lv with
  | nil => simp at h
  | cons q t ih =>
    obtain ⟨j, w⟩ := q
    rw [List.lookup_cons] at h
    by_cases e : i = j
    · subst e
      simp at h
      subst h
      exact List.mem_cons_self
    · rw [show (i == j) = false from by simp [e]] at h
      exact List.mem_cons_of_mem _ (ih h)
theorem ab_lv {E : ab_E} {ls : Array Slot} {nL : Nat} {lv : List (Nat × Value)} {i : Nat} {v : Value} (h : lv_has ls nL (ab_l E lv)) (hl : lv.lookup i = some v) : ls[i]? = some (.val (ab_v E v)) :=
  h.2.2 (i, ab_v E v) (List.mem_map.mpr ⟨(i, v), ab_lu hl, rfl⟩)
/-- the heap behind one changed cell -/
theorem ab_H.set {E : ab_E} {h : List ab_C} {H H1 : Heap} {a : Nat} {x : ab_C} (hH : ab_H E h H) (hat : va_at E.1 classes (ab_n E + a, ab_c E x) H1) (hz : H1.size = H.size) (ho : ∀ q : Nat, q ≠ ab_n E + a → H1[q]? = H[q]?) : ab_H E (h.set a x) H1 := by
  obtain ⟨h1, h2, h3⟩ := hH
  refine ⟨by rw [hz, h1, List.length_set], fun k y hk => ?_, fun q hq => by rw [ho q (by omega)]; exact h3 q hq⟩
  by_cases e : k = a
  · subst e
    rw [List.getElem?_set_self'] at hk
    cases hx : h[k]? with
    | none => rw [hx] at hk; simp at hk
    | some z =>
      rw [hx] at hk
      simp at hk
      subst hk
      exact hat
  · rw [List.getElem?_set_ne (Ne.symm e)] at hk
    exact (h2 k y hk).kept (ho _ (by show ab_n E + k ≠ ab_n E + a; omega))
theorem ab_H.push {E : ab_E} {h : List ab_C} {H H1 : Heap} {x : ab_C} (hH : ab_H E h H) (hat : va_at E.1 classes (ab_n E + h.length, ab_c E x) H1) (hz : H1.size = H.size + 1) (ho : ∀ q : Nat, q < H.size → H1[q]? = H[q]?) : ab_H E (h ++ [x]) H1 := by
  obtain ⟨h1, h2, h3⟩ := hH
  refine ⟨by rw [hz, h1, List.length_append]; rfl, fun k y hk => ?_, fun q hq => by rw [ho q (by omega)]; exact h3 q hq⟩
  by_cases e : k < h.length
  · rw [List.getElem?_append_left e] at hk
    exact (h2 k y hk).kept (ho _ (by show ab_n E + k < H.size; omega))
  · rw [List.getElem?_append_right (by omega)] at hk
    have hz : k - h.length < 1 := (List.getElem?_eq_some_iff.mp hk).1
    rw [show k - h.length = 0 by omega] at hk
    cases hk
    rw [show k = h.length by omega]
    exact hat
theorem ab_H.pushes {E : ab_E} {h k : List ab_C} {H H1 : Heap} (hH : ab_H E h H) (hat : ∀ (j : Nat) (x : ab_C), k[j]? = some x → va_at E.1 classes (ab_n E + (h.length + j), ab_c E x) H1) (hz : H1.size = H.size + k.length) (ho : ∀ q : Nat, q < H.size → H1[q]? = H[q]?) : ab_H E (h ++ k) H1 := by
  obtain ⟨h1, h2, h3⟩ := hH
  refine ⟨by rw [hz, h1, List.length_append]; omega, fun i y hk => ?_, fun q hq => by rw [ho q (by omega)]; exact h3 q hq⟩
  by_cases e : i < h.length
  · rw [List.getElem?_append_left e] at hk
    exact (h2 i y hk).kept (ho _ (by show ab_n E + i < H.size; omega))
  · rw [List.getElem?_append_right (by omega)] at hk
    have := hat _ y hk
    rw [show h.length + (i - h.length) = i by omega] at this
    exact this
/-- a method's start and end -/
def ab_P (E : ab_E) (av : List Value) (h : List ab_C) : Array Value → State → Prop := fun a U => a = (av.map (ab_v E)).toArray ∧ ab_H E h U.heap ∧ ab_K E U
def ab_Q (E : ab_E) (Post : Option Value → List ab_C → Prop) : Array Value → State → Outcome → State → Prop := fun _ _ o t => ∃ (r : Option Value) (h1 : List ab_C), o = .returned (r.map (ab_v E)) ∧ Post r h1 ∧ ab_H E h1 t.heap
/-- a contract: called with av at the heap h it returns, and Post holds of the answer and the heap; fr: how deep its calls go; mc cells of ms slots at most are new -/
def ab_Con (E : ab_E) (l : Launch) (y : MethodName) (bytes : ByteArray) (maxL : Nat) (ret : Option FieldType) (fr lo : Nat) (av : List Value) (h : List ab_C) (mc ms : Nat) (Post : Option Value → List ab_C → Prop) : Prop :=
  Met l y (.code y bytes maxL ret :: ab_tbl) { frames := fr, cells := mc, slots := ms, locals := lo } (ab_P E av h) (ab_Q E Post) mc ms (fun q => ab_n E ≤ q)
def ab_R (E : ab_E) (G : Heap → List Loc → Nat → Nat → JFrame → Prop) (m : MethodId) (nL ce sl pc : Nat) (lv : List (Nat × Value)) (st : List Value) (h : List ab_C) : Prop :=
  ∀ (H : Heap) (locs : List Loc) (ls : Array Slot), ab_H E h H → (∀ q ∈ locs, ab_n E ≤ q.base) → lv_has ls nL (ab_l E lv) → G H locs ce sl (F0 m pc ls (st.map (ab_v E)))
/-- where a method stands -/
def ab_X (E : ab_E) (l : Launch) (G : Heap → List Loc → Nat → Nat → JFrame → Prop) (m : MethodId) (cc : ByteArray) (nL : Nat) (own : String) (ini : Bool) (ret : Option FieldType) (fr lo mc ms : Nat) (Post : Option (Option Value → List ab_C → Prop)) : Prop :=
  ∃ (p : Program) (e : Env) (s : State) (args : Array Value) (below : List Frame) (meth : Method) (c : Code) (R : Room) (Q : State → Prop), G = (fun H locs ce sl g => W p l e R s m args below meth c H locs ce sl Q g) ∧
    (∀ P, Post = some P → Q = MQ below (ab_Q E P) args s mc ms (fun q => ab_n E ≤ q)) ∧
    p.tables.exec = Jvm.exec ∧ c.code = cc ∧ c.maxLocals = nL ∧ s.vm.findClass own = some m.cls ∧ (∀ w ∈ ab_tbl, w.before args s = true) ∧ meth.sig.returnType = ret ∧ meth.locks = false ∧ ab_K E s ∧ R.frames = fr ∧ R.locals = lo ∧ R.cells = mc ∧ R.slots = ms ∧ (ini = true → meth.name = "<init>")
section ABR
variable {E : ab_E} {l : Launch} {G : Heap → List Loc → Nat → Nat → JFrame → Prop} {m : MethodId} {cc : ByteArray} {nL : Nat} {own : String} {ini : Bool} {ret : Option FieldType} {fr lo mc ms : Nat} {Post : Option (Option Value → List ab_C → Prop)} {ce sl pc : Nat} {lv : List (Nat × Value)} {st : List Value} {h : List ab_C}
/-- fewer locals, in any order -/
theorem ab_sub (lv' : List (Nat × Value)) (hl : lv'.map (fun q => lv.lookup q.1) = lv'.map (fun q => some q.2)) (kk : ab_R E G m nL ce sl pc lv' st h) : ab_R E G m nL ce sl pc lv st h := by
  intro H locs ls hH hL hls
  refine kk H locs ls hH hL ⟨hls.1, hls.2.1, fun q hq => ?_⟩
  obtain ⟨r, hr, rfl⟩ := List.mem_map.mp hq
  refine ab_lv (v := r.2) hls ?_
  obtain ⟨i, hi⟩ := List.getElem?_of_mem hr
  have h1 := congrArg (fun z => z[i]?) hl
  simp only [List.getElem?_map, hi, Option.map_some] at h1
  exact Option.some.inj h1
theorem ab_st {st' : List Value} (e : st = st') (kk : ab_R E G m nL ce sl pc lv st' h) : ab_R E G m nL ce sl pc lv st h := e ▸ kk
theorem ab_hp {h' : List ab_C} (e : h = h') (kk : ab_R E G m nL ce sl pc lv st h') : ab_R E G m nL ce sl pc lv st h := e ▸ kk
theorem a_iconst (X : ab_X E l G m cc nL own ini ret fr lo mc ms Post) {n : Int} {v : Int32} (d : decode cc pc = .ok (.iconst n, 1)) (hv : Int32.ofInt n = v) (kk : ab_R E G m nL ce sl (pc + 1) lv (.int v :: st) h) : ab_R E G m nL ce sl pc lv st h := by
  obtain ⟨p, e, s, args, below, meth, c, R, Q, rfl, hQ, hx, hb, hml, hown, hts, hr, hlk, hK, r1, r2, r3, r4, hini⟩ := X
  intro H locs ls hH hL hls
  exact lv_iconst hx hb d hv (kk H locs ls hH hL hls)
theorem a_bipush (X : ab_X E l G m cc nL own ini ret fr lo mc ms Post) {n : Int} {v : Int32} (d : decode cc pc = .ok (.bipush n, 2)) (hv : (Int8.ofInt n).toInt32 = v) (kk : ab_R E G m nL ce sl (pc + 2) lv (.int v :: st) h) : ab_R E G m nL ce sl pc lv st h := by
  obtain ⟨p, e, s, args, below, meth, c, R, Q, rfl, hQ, hx, hb, hml, hown, hts, hr, hlk, hK, r1, r2, r3, r4, hini⟩ := X
  intro H locs ls hH hL hls
  exact lv_bipush hx hb d hv (kk H locs ls hH hL hls)
theorem a_sipush (X : ab_X E l G m cc nL own ini ret fr lo mc ms Post) {n : Int} {v : Int32} (d : decode cc pc = .ok (.sipush n, 3)) (hv : (Int16.ofInt n).toInt32 = v) (kk : ab_R E G m nL ce sl (pc + 3) lv (.int v :: st) h) : ab_R E G m nL ce sl pc lv st h := by
  obtain ⟨p, e, s, args, below, meth, c, R, Q, rfl, hQ, hx, hb, hml, hown, hts, hr, hlk, hK, r1, r2, r3, r4, hini⟩ := X
  intro H locs ls hH hL hls
  exact lv_sipush hx hb d hv (kk H locs ls hH hL hls)
theorem a_lconst (X : ab_X E l G m cc nL own ini ret fr lo mc ms Post) {n : Fin 2} {v : Int64} (d : decode cc pc = .ok (.lconst n, 1)) (hv : Int64.ofNat n = v) (kk : ab_R E G m nL ce sl (pc + 1) lv (.long v :: st) h) : ab_R E G m nL ce sl pc lv st h := by
  obtain ⟨p, e, s, args, below, meth, c, R, Q, rfl, hQ, hx, hb, hml, hown, hts, hr, hlk, hK, r1, r2, r3, r4, hini⟩ := X
  intro H locs ls hH hL hls
  exact lv_lconst hx hb d hv (kk H locs ls hH hL hls)
theorem a_iload_n (X : ab_X E l G m cc nL own ini ret fr lo mc ms Post) {k : Fin 4} {x : Int32} (i : Nat) (d : decode cc pc = .ok (.iload_n k, 1)) (hi : (k : Nat) = i) (hl : lv.lookup i = some (.int x)) (kk : ab_R E G m nL ce sl (pc + 1) lv (.int x :: st) h) : ab_R E G m nL ce sl pc lv st h := by
  obtain ⟨p, e, s, args, below, meth, c, R, Q, rfl, hQ, hx, hb, hml, hown, hts, hr, hlk, hK, r1, r2, r3, r4, hini⟩ := X
  intro H locs ls hH hL hls
  exact lv_iload_n hx hb d hi (ab_lv hls hl) (kk H locs ls hH hL hls)
theorem a_iload (X : ab_X E l G m cc nL own ini ret fr lo mc ms Post) {i : Nat} {x : Int32} (d : decode cc pc = .ok (.iload i, 2)) (hl : lv.lookup i = some (.int x)) (kk : ab_R E G m nL ce sl (pc + 2) lv (.int x :: st) h) : ab_R E G m nL ce sl pc lv st h := by
  obtain ⟨p, e, s, args, below, meth, c, R, Q, rfl, hQ, hx, hb, hml, hown, hts, hr, hlk, hK, r1, r2, r3, r4, hini⟩ := X
  intro H locs ls hH hL hls
  exact lv_iload hx hb d (ab_lv hls hl) (kk H locs ls hH hL hls)
theorem a_lload_n (X : ab_X E l G m cc nL own ini ret fr lo mc ms Post) {k : Fin 4} {x : Int64} (i : Nat) (d : decode cc pc = .ok (.lload_n k, 1)) (hi : (k : Nat) = i) (hl : lv.lookup i = some (.long x)) (kk : ab_R E G m nL ce sl (pc + 1) lv (.long x :: st) h) : ab_R E G m nL ce sl pc lv st h := by
  obtain ⟨p, e, s, args, below, meth, c, R, Q, rfl, hQ, hx, hb, hml, hown, hts, hr, hlk, hK, r1, r2, r3, r4, hini⟩ := X
  intro H locs ls hH hL hls
  exact lv_lload_n hx hb d hi (ab_lv hls hl) (kk H locs ls hH hL hls)
theorem a_lload (X : ab_X E l G m cc nL own ini ret fr lo mc ms Post) {i : Nat} {x : Int64} (d : decode cc pc = .ok (.lload i, 2)) (hl : lv.lookup i = some (.long x)) (kk : ab_R E G m nL ce sl (pc + 2) lv (.long x :: st) h) : ab_R E G m nL ce sl pc lv st h := by
  obtain ⟨p, e, s, args, below, meth, c, R, Q, rfl, hQ, hx, hb, hml, hown, hts, hr, hlk, hK, r1, r2, r3, r4, hini⟩ := X
  intro H locs ls hH hL hls
  exact lv_lload hx hb d (ab_lv hls hl) (kk H locs ls hH hL hls)
theorem a_aload_n (X : ab_X E l G m cc nL own ini ret fr lo mc ms Post) {k : Fin 4} {x : Nat} (i : Nat) (d : decode cc pc = .ok (.aload_n k, 1)) (hi : (k : Nat) = i) (hl : lv.lookup i = some (.ref x)) (kk : ab_R E G m nL ce sl (pc + 1) lv (.ref x :: st) h) : ab_R E G m nL ce sl pc lv st h := by
  obtain ⟨p, e, s, args, below, meth, c, R, Q, rfl, hQ, hx, hb, hml, hown, hts, hr, hlk, hK, r1, r2, r3, r4, hini⟩ := X
  intro H locs ls hH hL hls
  exact lv_aload_n hx hb d hi (ab_lv hls hl) (kk H locs ls hH hL hls)
theorem a_aload (X : ab_X E l G m cc nL own ini ret fr lo mc ms Post) {i : Nat} {x : Nat} (d : decode cc pc = .ok (.aload i, 2)) (hl : lv.lookup i = some (.ref x)) (kk : ab_R E G m nL ce sl (pc + 2) lv (.ref x :: st) h) : ab_R E G m nL ce sl pc lv st h := by
  obtain ⟨p, e, s, args, below, meth, c, R, Q, rfl, hQ, hx, hb, hml, hown, hts, hr, hlk, hK, r1, r2, r3, r4, hini⟩ := X
  intro H locs ls hH hL hls
  exact lv_aload hx hb d (ab_lv hls hl) (kk H locs ls hH hL hls)
theorem a_istore_n (X : ab_X E l G m cc nL own ini ret fr lo mc ms Post) {k : Fin 4} {x : Int32} (i : Nat) (d : decode cc pc = .ok (.istore_n k, 1)) (hi : (k : Nat) = i) (hn : i < nL) (kk : ab_R E G m nL ce sl (pc + 1) (ab_s1 lv i (.int x)) st h) : ab_R E G m nL ce sl pc lv (.int x :: st) h := by
  obtain ⟨p, e, s, args, below, meth, c, R, Q, rfl, hQ, hx, hb, hml, hown, hts, hr, hlk, hK, r1, r2, r3, r4, hini⟩ := X
  intro H locs ls hH hL hls
  exact lv_istore_n hx hb d hi hls hn (ab_s1_map E lv i (.int x)) (fun ls' hls' => kk H locs ls' hH hL hls')
theorem a_istore (X : ab_X E l G m cc nL own ini ret fr lo mc ms Post) {i : Nat} {x : Int32} (d : decode cc pc = .ok (.istore i, 2)) (hn : i < nL) (kk : ab_R E G m nL ce sl (pc + 2) (ab_s1 lv i (.int x)) st h) : ab_R E G m nL ce sl pc lv (.int x :: st) h := by
  obtain ⟨p, e, s, args, below, meth, c, R, Q, rfl, hQ, hx, hb, hml, hown, hts, hr, hlk, hK, r1, r2, r3, r4, hini⟩ := X
  intro H locs ls hH hL hls
  exact lv_istore hx hb d hls hn (ab_s1_map E lv i (.int x)) (fun ls' hls' => kk H locs ls' hH hL hls')
theorem a_lstore_n (X : ab_X E l G m cc nL own ini ret fr lo mc ms Post) {k : Fin 4} {x : Int64} (i : Nat) (d : decode cc pc = .ok (.lstore_n k, 1)) (hi : (k : Nat) = i) (hn : i + 1 < nL) (kk : ab_R E G m nL ce sl (pc + 1) (ab_s2 lv i (.long x)) st h) : ab_R E G m nL ce sl pc lv (.long x :: st) h := by
  obtain ⟨p, e, s, args, below, meth, c, R, Q, rfl, hQ, hx, hb, hml, hown, hts, hr, hlk, hK, r1, r2, r3, r4, hini⟩ := X
  intro H locs ls hH hL hls
  exact lv_lstore_n hx hb d hi hls hn (ab_s2_map E lv i (.long x)) (fun ls' hls' => kk H locs ls' hH hL hls')
theorem a_lstore (X : ab_X E l G m cc nL own ini ret fr lo mc ms Post) {i : Nat} {x : Int64} (d : decode cc pc = .ok (.lstore i, 2)) (hn : i + 1 < nL) (kk : ab_R E G m nL ce sl (pc + 2) (ab_s2 lv i (.long x)) st h) : ab_R E G m nL ce sl pc lv (.long x :: st) h := by
  obtain ⟨p, e, s, args, below, meth, c, R, Q, rfl, hQ, hx, hb, hml, hown, hts, hr, hlk, hK, r1, r2, r3, r4, hini⟩ := X
  intro H locs ls hH hL hls
  exact lv_lstore hx hb d hls hn (ab_s2_map E lv i (.long x)) (fun ls' hls' => kk H locs ls' hH hL hls')
theorem a_astore_n (X : ab_X E l G m cc nL own ini ret fr lo mc ms Post) {k : Fin 4} {x : Nat} (i : Nat) (d : decode cc pc = .ok (.astore_n k, 1)) (hi : (k : Nat) = i) (hn : i < nL) (kk : ab_R E G m nL ce sl (pc + 1) (ab_s1 lv i (.ref x)) st h) : ab_R E G m nL ce sl pc lv (.ref x :: st) h := by
  obtain ⟨p, e, s, args, below, meth, c, R, Q, rfl, hQ, hx, hb, hml, hown, hts, hr, hlk, hK, r1, r2, r3, r4, hini⟩ := X
  intro H locs ls hH hL hls
  exact lv_astore_n hx hb d hi hls hn (ab_s1_map E lv i (.ref x)) (fun ls' hls' => kk H locs ls' hH hL hls')
theorem a_astore (X : ab_X E l G m cc nL own ini ret fr lo mc ms Post) {i : Nat} {x : Nat} (d : decode cc pc = .ok (.astore i, 2)) (hn : i < nL) (kk : ab_R E G m nL ce sl (pc + 2) (ab_s1 lv i (.ref x)) st h) : ab_R E G m nL ce sl pc lv (.ref x :: st) h := by
  obtain ⟨p, e, s, args, below, meth, c, R, Q, rfl, hQ, hx, hb, hml, hown, hts, hr, hlk, hK, r1, r2, r3, r4, hini⟩ := X
  intro H locs ls hH hL hls
  exact lv_astore hx hb d hls hn (ab_s1_map E lv i (.ref x)) (fun ls' hls' => kk H locs ls' hH hL hls')
theorem a_iinc (X : ab_X E l G m cc nL own ini ret fr lo mc ms Post) {i : Nat} {n : Int} {x v : Int32} (d : decode cc pc = .ok (.iinc i n, 3)) (hl : lv.lookup i = some (.int x)) (hv : x + Int32.ofInt n = v) (hn : i < nL) (kk : ab_R E G m nL ce sl (pc + 3) (ab_s1 lv i (.int v)) st h) : ab_R E G m nL ce sl pc lv st h := by
  obtain ⟨p, e, s, args, below, meth, c, R, Q, rfl, hQ, hx, hb, hml, hown, hts, hr, hlk, hK, r1, r2, r3, r4, hini⟩ := X
  intro H locs ls hH hL hls
  obtain ⟨j, hj⟩ := List.getElem?_of_mem (ab_lu hl)
  exact lv_iinc (k := j) hx hb d hls (by rw [List.getElem?_map, hj]; rfl) hv hn (ab_s1_map E lv i (.int v)) (fun ls' hls' => kk H locs ls' hH hL hls')
theorem a_iadd (X : ab_X E l G m cc nL own ini ret fr lo mc ms Post) {x y : Int32} (d : decode cc pc = .ok (.iadd, 1)) (kk : ab_R E G m nL ce sl (pc + 1) lv (.int (x + y) :: st) h) : ab_R E G m nL ce sl pc lv (.int y :: .int x :: st) h := by
  obtain ⟨p, e, s, args, below, meth, c, R, Q, rfl, hQ, hx, hb, hml, hown, hts, hr, hlk, hK, r1, r2, r3, r4, hini⟩ := X
  intro H locs ls hH hL hls
  exact lv_iadd hx hb d (kk H locs ls hH hL hls)
theorem a_isub (X : ab_X E l G m cc nL own ini ret fr lo mc ms Post) {x y : Int32} (d : decode cc pc = .ok (.isub, 1)) (kk : ab_R E G m nL ce sl (pc + 1) lv (.int (x - y) :: st) h) : ab_R E G m nL ce sl pc lv (.int y :: .int x :: st) h := by
  obtain ⟨p, e, s, args, below, meth, c, R, Q, rfl, hQ, hx, hb, hml, hown, hts, hr, hlk, hK, r1, r2, r3, r4, hini⟩ := X
  intro H locs ls hH hL hls
  exact lv_isub hx hb d (kk H locs ls hH hL hls)
theorem a_imul (X : ab_X E l G m cc nL own ini ret fr lo mc ms Post) {x y : Int32} (d : decode cc pc = .ok (.imul, 1)) (kk : ab_R E G m nL ce sl (pc + 1) lv (.int (x * y) :: st) h) : ab_R E G m nL ce sl pc lv (.int y :: .int x :: st) h := by
  obtain ⟨p, e, s, args, below, meth, c, R, Q, rfl, hQ, hx, hb, hml, hown, hts, hr, hlk, hK, r1, r2, r3, r4, hini⟩ := X
  intro H locs ls hH hL hls
  exact lv_imul hx hb d (kk H locs ls hH hL hls)
theorem a_iand (X : ab_X E l G m cc nL own ini ret fr lo mc ms Post) {x y : Int32} (d : decode cc pc = .ok (.iand, 1)) (kk : ab_R E G m nL ce sl (pc + 1) lv (.int (x &&& y) :: st) h) : ab_R E G m nL ce sl pc lv (.int y :: .int x :: st) h := by
  obtain ⟨p, e, s, args, below, meth, c, R, Q, rfl, hQ, hx, hb, hml, hown, hts, hr, hlk, hK, r1, r2, r3, r4, hini⟩ := X
  intro H locs ls hH hL hls
  exact lv_iand hx hb d (kk H locs ls hH hL hls)
theorem a_ior (X : ab_X E l G m cc nL own ini ret fr lo mc ms Post) {x y : Int32} (d : decode cc pc = .ok (.ior, 1)) (kk : ab_R E G m nL ce sl (pc + 1) lv (.int (x ||| y) :: st) h) : ab_R E G m nL ce sl pc lv (.int y :: .int x :: st) h := by
  obtain ⟨p, e, s, args, below, meth, c, R, Q, rfl, hQ, hx, hb, hml, hown, hts, hr, hlk, hK, r1, r2, r3, r4, hini⟩ := X
  intro H locs ls hH hL hls
  exact lv_ior hx hb d (kk H locs ls hH hL hls)
theorem a_ixor (X : ab_X E l G m cc nL own ini ret fr lo mc ms Post) {x y : Int32} (d : decode cc pc = .ok (.ixor, 1)) (kk : ab_R E G m nL ce sl (pc + 1) lv (.int (x ^^^ y) :: st) h) : ab_R E G m nL ce sl pc lv (.int y :: .int x :: st) h := by
  obtain ⟨p, e, s, args, below, meth, c, R, Q, rfl, hQ, hx, hb, hml, hown, hts, hr, hlk, hK, r1, r2, r3, r4, hini⟩ := X
  intro H locs ls hH hL hls
  exact lv_ixor hx hb d (kk H locs ls hH hL hls)
theorem a_ishl (X : ab_X E l G m cc nL own ini ret fr lo mc ms Post) {x y : Int32} (d : decode cc pc = .ok (.ishl, 1)) (kk : ab_R E G m nL ce sl (pc + 1) lv (.int (x <<< (y &&& 31)) :: st) h) : ab_R E G m nL ce sl pc lv (.int y :: .int x :: st) h := by
  obtain ⟨p, e, s, args, below, meth, c, R, Q, rfl, hQ, hx, hb, hml, hown, hts, hr, hlk, hK, r1, r2, r3, r4, hini⟩ := X
  intro H locs ls hH hL hls
  exact lv_ishl hx hb d (kk H locs ls hH hL hls)
theorem a_ishr (X : ab_X E l G m cc nL own ini ret fr lo mc ms Post) {x y : Int32} (d : decode cc pc = .ok (.ishr, 1)) (kk : ab_R E G m nL ce sl (pc + 1) lv (.int (x >>> (y &&& 31)) :: st) h) : ab_R E G m nL ce sl pc lv (.int y :: .int x :: st) h := by
  obtain ⟨p, e, s, args, below, meth, c, R, Q, rfl, hQ, hx, hb, hml, hown, hts, hr, hlk, hK, r1, r2, r3, r4, hini⟩ := X
  intro H locs ls hH hL hls
  exact lv_ishr hx hb d (kk H locs ls hH hL hls)
theorem a_idiv (X : ab_X E l G m cc nL own ini ret fr lo mc ms Post) {x y : Int32} (d : decode cc pc = .ok (.idiv, 1)) (hne : ¬ y = 0) (kk : ab_R E G m nL ce sl (pc + 1) lv (.int (x / y) :: st) h) : ab_R E G m nL ce sl pc lv (.int y :: .int x :: st) h := by
  obtain ⟨p, e, s, args, below, meth, c, R, Q, rfl, hQ, hx, hb, hml, hown, hts, hr, hlk, hK, r1, r2, r3, r4, hini⟩ := X
  intro H locs ls hH hL hls
  exact lv_idiv hx hb d hne (kk H locs ls hH hL hls)
theorem a_irem (X : ab_X E l G m cc nL own ini ret fr lo mc ms Post) {x y : Int32} (d : decode cc pc = .ok (.irem, 1)) (hne : ¬ y = 0) (kk : ab_R E G m nL ce sl (pc + 1) lv (.int (x - x / y * y) :: st) h) : ab_R E G m nL ce sl pc lv (.int y :: .int x :: st) h := by
  obtain ⟨p, e, s, args, below, meth, c, R, Q, rfl, hQ, hx, hb, hml, hown, hts, hr, hlk, hK, r1, r2, r3, r4, hini⟩ := X
  intro H locs ls hH hL hls
  exact lv_irem hx hb d hne (kk H locs ls hH hL hls)
theorem a_ineg (X : ab_X E l G m cc nL own ini ret fr lo mc ms Post) {x : Int32} (d : decode cc pc = .ok (.ineg, 1)) (kk : ab_R E G m nL ce sl (pc + 1) lv (.int (-x) :: st) h) : ab_R E G m nL ce sl pc lv (.int x :: st) h := by
  obtain ⟨p, e, s, args, below, meth, c, R, Q, rfl, hQ, hx, hb, hml, hown, hts, hr, hlk, hK, r1, r2, r3, r4, hini⟩ := X
  intro H locs ls hH hL hls
  exact lv_ineg hx hb d (kk H locs ls hH hL hls)
theorem a_ladd (X : ab_X E l G m cc nL own ini ret fr lo mc ms Post) {x y : Int64} (d : decode cc pc = .ok (.ladd, 1)) (kk : ab_R E G m nL ce sl (pc + 1) lv (.long (x + y) :: st) h) : ab_R E G m nL ce sl pc lv (.long y :: .long x :: st) h := by
  obtain ⟨p, e, s, args, below, meth, c, R, Q, rfl, hQ, hx, hb, hml, hown, hts, hr, hlk, hK, r1, r2, r3, r4, hini⟩ := X
  intro H locs ls hH hL hls
  exact lv_ladd hx hb d (kk H locs ls hH hL hls)
theorem a_lsub (X : ab_X E l G m cc nL own ini ret fr lo mc ms Post) {x y : Int64} (d : decode cc pc = .ok (.lsub, 1)) (kk : ab_R E G m nL ce sl (pc + 1) lv (.long (x - y) :: st) h) : ab_R E G m nL ce sl pc lv (.long y :: .long x :: st) h := by
  obtain ⟨p, e, s, args, below, meth, c, R, Q, rfl, hQ, hx, hb, hml, hown, hts, hr, hlk, hK, r1, r2, r3, r4, hini⟩ := X
  intro H locs ls hH hL hls
  exact lv_lsub hx hb d (kk H locs ls hH hL hls)
theorem a_lmul (X : ab_X E l G m cc nL own ini ret fr lo mc ms Post) {x y : Int64} (d : decode cc pc = .ok (.lmul, 1)) (kk : ab_R E G m nL ce sl (pc + 1) lv (.long (x * y) :: st) h) : ab_R E G m nL ce sl pc lv (.long y :: .long x :: st) h := by
  obtain ⟨p, e, s, args, below, meth, c, R, Q, rfl, hQ, hx, hb, hml, hown, hts, hr, hlk, hK, r1, r2, r3, r4, hini⟩ := X
  intro H locs ls hH hL hls
  exact lv_lmul hx hb d (kk H locs ls hH hL hls)
theorem a_land (X : ab_X E l G m cc nL own ini ret fr lo mc ms Post) {x y : Int64} (d : decode cc pc = .ok (.land, 1)) (kk : ab_R E G m nL ce sl (pc + 1) lv (.long (x &&& y) :: st) h) : ab_R E G m nL ce sl pc lv (.long y :: .long x :: st) h := by
  obtain ⟨p, e, s, args, below, meth, c, R, Q, rfl, hQ, hx, hb, hml, hown, hts, hr, hlk, hK, r1, r2, r3, r4, hini⟩ := X
  intro H locs ls hH hL hls
  exact lv_land hx hb d (kk H locs ls hH hL hls)
theorem a_lor (X : ab_X E l G m cc nL own ini ret fr lo mc ms Post) {x y : Int64} (d : decode cc pc = .ok (.lor, 1)) (kk : ab_R E G m nL ce sl (pc + 1) lv (.long (x ||| y) :: st) h) : ab_R E G m nL ce sl pc lv (.long y :: .long x :: st) h := by
  obtain ⟨p, e, s, args, below, meth, c, R, Q, rfl, hQ, hx, hb, hml, hown, hts, hr, hlk, hK, r1, r2, r3, r4, hini⟩ := X
  intro H locs ls hH hL hls
  exact lv_lor hx hb d (kk H locs ls hH hL hls)
theorem a_lxor (X : ab_X E l G m cc nL own ini ret fr lo mc ms Post) {x y : Int64} (d : decode cc pc = .ok (.lxor, 1)) (kk : ab_R E G m nL ce sl (pc + 1) lv (.long (x ^^^ y) :: st) h) : ab_R E G m nL ce sl pc lv (.long y :: .long x :: st) h := by
  obtain ⟨p, e, s, args, below, meth, c, R, Q, rfl, hQ, hx, hb, hml, hown, hts, hr, hlk, hK, r1, r2, r3, r4, hini⟩ := X
  intro H locs ls hH hL hls
  exact lv_lxor hx hb d (kk H locs ls hH hL hls)
theorem a_ldiv (X : ab_X E l G m cc nL own ini ret fr lo mc ms Post) {x y : Int64} (d : decode cc pc = .ok (.ldiv, 1)) (hne : ¬ y = 0) (kk : ab_R E G m nL ce sl (pc + 1) lv (.long (x / y) :: st) h) : ab_R E G m nL ce sl pc lv (.long y :: .long x :: st) h := by
  obtain ⟨p, e, s, args, below, meth, c, R, Q, rfl, hQ, hx, hb, hml, hown, hts, hr, hlk, hK, r1, r2, r3, r4, hini⟩ := X
  intro H locs ls hH hL hls
  exact lv_ldiv hx hb d hne (kk H locs ls hH hL hls)
theorem a_lrem (X : ab_X E l G m cc nL own ini ret fr lo mc ms Post) {x y : Int64} (d : decode cc pc = .ok (.lrem, 1)) (hne : ¬ y = 0) (kk : ab_R E G m nL ce sl (pc + 1) lv (.long (x - x / y * y) :: st) h) : ab_R E G m nL ce sl pc lv (.long y :: .long x :: st) h := by
  obtain ⟨p, e, s, args, below, meth, c, R, Q, rfl, hQ, hx, hb, hml, hown, hts, hr, hlk, hK, r1, r2, r3, r4, hini⟩ := X
  intro H locs ls hH hL hls
  exact lv_lrem hx hb d hne (kk H locs ls hH hL hls)
theorem a_lneg (X : ab_X E l G m cc nL own ini ret fr lo mc ms Post) {x : Int64} (d : decode cc pc = .ok (.lneg, 1)) (kk : ab_R E G m nL ce sl (pc + 1) lv (.long (-x) :: st) h) : ab_R E G m nL ce sl pc lv (.long x :: st) h := by
  obtain ⟨p, e, s, args, below, meth, c, R, Q, rfl, hQ, hx, hb, hml, hown, hts, hr, hlk, hK, r1, r2, r3, r4, hini⟩ := X
  intro H locs ls hH hL hls
  exact lv_lneg hx hb d (kk H locs ls hH hL hls)
theorem a_iushr (X : ab_X E l G m cc nL own ini ret fr lo mc ms Post) {x y : Int32} (d : decode cc pc = .ok (.iushr, 1)) (kk : ab_R E G m nL ce sl (pc + 1) lv (.int ((x.toUInt32 >>> (y.toUInt32 &&& Int32.toUInt32 31)).toInt32) :: st) h) : ab_R E G m nL ce sl pc lv (.int y :: .int x :: st) h := by
  obtain ⟨p, e, s, args, below, meth, c, R, Q, rfl, hQ, hx, hb, hml, hown, hts, hr, hlk, hK, r1, r2, r3, r4, hini⟩ := X
  intro H locs ls hH hL hls
  exact lv_iushr hx hb d rfl (kk H locs ls hH hL hls)
theorem a_lushr (X : ab_X E l G m cc nL own ini ret fr lo mc ms Post) {x : Int64} {y : Int32} (d : decode cc pc = .ok (.lushr, 1)) (kk : ab_R E G m nL ce sl (pc + 1) lv (.long ((x.toUInt64 >>> (y.toInt64.toUInt64 &&& Int64.toUInt64 63)).toInt64) :: st) h) : ab_R E G m nL ce sl pc lv (.int y :: .long x :: st) h := by
  obtain ⟨p, e, s, args, below, meth, c, R, Q, rfl, hQ, hx, hb, hml, hown, hts, hr, hlk, hK, r1, r2, r3, r4, hini⟩ := X
  intro H locs ls hH hL hls
  exact lv_lushr hx hb d rfl (kk H locs ls hH hL hls)
theorem a_lshl (X : ab_X E l G m cc nL own ini ret fr lo mc ms Post) {x : Int64} {y : Int32} (d : decode cc pc = .ok (.lshl, 1)) (kk : ab_R E G m nL ce sl (pc + 1) lv (.long (x <<< (y.toInt64 &&& 63)) :: st) h) : ab_R E G m nL ce sl pc lv (.int y :: .long x :: st) h := by
  obtain ⟨p, e, s, args, below, meth, c, R, Q, rfl, hQ, hx, hb, hml, hown, hts, hr, hlk, hK, r1, r2, r3, r4, hini⟩ := X
  intro H locs ls hH hL hls
  exact lv_lshl hx hb d rfl (kk H locs ls hH hL hls)
theorem a_lshr (X : ab_X E l G m cc nL own ini ret fr lo mc ms Post) {x : Int64} {y : Int32} (d : decode cc pc = .ok (.lshr, 1)) (kk : ab_R E G m nL ce sl (pc + 1) lv (.long (x >>> (y.toInt64 &&& 63)) :: st) h) : ab_R E G m nL ce sl pc lv (.int y :: .long x :: st) h := by
  obtain ⟨p, e, s, args, below, meth, c, R, Q, rfl, hQ, hx, hb, hml, hown, hts, hr, hlk, hK, r1, r2, r3, r4, hini⟩ := X
  intro H locs ls hH hL hls
  exact lv_lshr hx hb d rfl (kk H locs ls hH hL hls)
theorem a_i2l (X : ab_X E l G m cc nL own ini ret fr lo mc ms Post) {x : Int32} (d : decode cc pc = .ok (.i2l, 1)) (kk : ab_R E G m nL ce sl (pc + 1) lv (.long x.toInt64 :: st) h) : ab_R E G m nL ce sl pc lv (.int x :: st) h := by
  obtain ⟨p, e, s, args, below, meth, c, R, Q, rfl, hQ, hx, hb, hml, hown, hts, hr, hlk, hK, r1, r2, r3, r4, hini⟩ := X
  intro H locs ls hH hL hls
  exact lv_i2l hx hb d rfl (kk H locs ls hH hL hls)
theorem a_l2i (X : ab_X E l G m cc nL own ini ret fr lo mc ms Post) {x : Int64} (d : decode cc pc = .ok (.l2i, 1)) (kk : ab_R E G m nL ce sl (pc + 1) lv (.int x.toInt32 :: st) h) : ab_R E G m nL ce sl pc lv (.long x :: st) h := by
  obtain ⟨p, e, s, args, below, meth, c, R, Q, rfl, hQ, hx, hb, hml, hown, hts, hr, hlk, hK, r1, r2, r3, r4, hini⟩ := X
  intro H locs ls hH hL hls
  exact lv_l2i hx hb d rfl (kk H locs ls hH hL hls)
theorem a_lcmp (X : ab_X E l G m cc nL own ini ret fr lo mc ms Post) {x y : Int64} (d : decode cc pc = .ok (.lcmp, 1)) (kk : ab_R E G m nL ce sl (pc + 1) lv (.int (lg_cmp x y) :: st) h) : ab_R E G m nL ce sl pc lv (.long y :: .long x :: st) h := by
  obtain ⟨p, e, s, args, below, meth, c, R, Q, rfl, hQ, hx, hb, hml, hown, hts, hr, hlk, hK, r1, r2, r3, r4, hini⟩ := X
  intro H locs ls hH hL hls
  exact W.lcmp hx hb d (kk H locs ls hH hL hls)
theorem a_dup (X : ab_X E l G m cc nL own ini ret fr lo mc ms Post) {va : Value} (d : decode cc pc = .ok (.dup, 1)) (hva : va.category = 1) (kk : ab_R E G m nL ce sl (pc + 1) lv (va :: va :: st) h) : ab_R E G m nL ce sl pc lv (va :: st) h := by
  obtain ⟨p, e, s, args, below, meth, c, R, Q, rfl, hQ, hx, hb, hml, hown, hts, hr, hlk, hK, r1, r2, r3, r4, hini⟩ := X
  intro H locs ls hH hL hls
  exact lv_dup hx hb d ((ab_cat E va).trans hva) (kk H locs ls hH hL hls)
theorem a_pop (X : ab_X E l G m cc nL own ini ret fr lo mc ms Post) {va : Value} (d : decode cc pc = .ok (.pop, 1)) (hva : va.category = 1) (kk : ab_R E G m nL ce sl (pc + 1) lv st h) : ab_R E G m nL ce sl pc lv (va :: st) h := by
  obtain ⟨p, e, s, args, below, meth, c, R, Q, rfl, hQ, hx, hb, hml, hown, hts, hr, hlk, hK, r1, r2, r3, r4, hini⟩ := X
  intro H locs ls hH hL hls
  exact lv_pop hx hb d ((ab_cat E va).trans hva) (kk H locs ls hH hL hls)
theorem a_pop2 (X : ab_X E l G m cc nL own ini ret fr lo mc ms Post) {va : Value} (d : decode cc pc = .ok (.pop2, 1)) (hva : va.category = 2) (kk : ab_R E G m nL ce sl (pc + 1) lv st h) : ab_R E G m nL ce sl pc lv (va :: st) h := by
  obtain ⟨p, e, s, args, below, meth, c, R, Q, rfl, hQ, hx, hb, hml, hown, hts, hr, hlk, hK, r1, r2, r3, r4, hini⟩ := X
  intro H locs ls hH hL hls
  exact lv_pop2_2 hx hb d ((ab_cat E va).trans hva) (kk H locs ls hH hL hls)
theorem a_dup_x1 (X : ab_X E l G m cc nL own ini ret fr lo mc ms Post) {va vb : Value} (d : decode cc pc = .ok (.dup_x1, 1)) (hva : va.category = 1) (hvb : vb.category = 1) (kk : ab_R E G m nL ce sl (pc + 1) lv (va :: vb :: va :: st) h) : ab_R E G m nL ce sl pc lv (va :: vb :: st) h := by
  obtain ⟨p, e, s, args, below, meth, c, R, Q, rfl, hQ, hx, hb, hml, hown, hts, hr, hlk, hK, r1, r2, r3, r4, hini⟩ := X
  intro H locs ls hH hL hls
  exact lv_dup_x1 hx hb d ((ab_cat E va).trans hva) ((ab_cat E vb).trans hvb) (kk H locs ls hH hL hls)
theorem a_dup_x2 (X : ab_X E l G m cc nL own ini ret fr lo mc ms Post) {va vb vd : Value} (d : decode cc pc = .ok (.dup_x2, 1)) (hva : va.category = 1) (hvb : vb.category = 1) (hvd : vd.category = 1) (kk : ab_R E G m nL ce sl (pc + 1) lv (va :: vb :: vd :: va :: st) h) : ab_R E G m nL ce sl pc lv (va :: vb :: vd :: st) h := by
  obtain ⟨p, e, s, args, below, meth, c, R, Q, rfl, hQ, hx, hb, hml, hown, hts, hr, hlk, hK, r1, r2, r3, r4, hini⟩ := X
  intro H locs ls hH hL hls
  exact lv_dup_x2 hx hb d ((ab_cat E va).trans hva) ((ab_cat E vb).trans hvb) ((ab_cat E vd).trans hvd) (kk H locs ls hH hL hls)
theorem a_dup2 (X : ab_X E l G m cc nL own ini ret fr lo mc ms Post) {va vb : Value} (d : decode cc pc = .ok (.dup2, 1)) (hva : va.category = 1) (hvb : vb.category = 1) (kk : ab_R E G m nL ce sl (pc + 1) lv (va :: vb :: va :: vb :: st) h) : ab_R E G m nL ce sl pc lv (va :: vb :: st) h := by
  obtain ⟨p, e, s, args, below, meth, c, R, Q, rfl, hQ, hx, hb, hml, hown, hts, hr, hlk, hK, r1, r2, r3, r4, hini⟩ := X
  intro H locs ls hH hL hls
  exact lv_dup2_11 hx hb d ((ab_cat E va).trans hva) ((ab_cat E vb).trans hvb) (kk H locs ls hH hL hls)
theorem a_dup2_2 (X : ab_X E l G m cc nL own ini ret fr lo mc ms Post) {va : Value} (d : decode cc pc = .ok (.dup2, 1)) (hva : va.category = 2) (kk : ab_R E G m nL ce sl (pc + 1) lv (va :: va :: st) h) : ab_R E G m nL ce sl pc lv (va :: st) h := by
  obtain ⟨p, e, s, args, below, meth, c, R, Q, rfl, hQ, hx, hb, hml, hown, hts, hr, hlk, hK, r1, r2, r3, r4, hini⟩ := X
  intro H locs ls hH hL hls
  exact lv_dup2_2 hx hb d ((ab_cat E va).trans hva) (kk H locs ls hH hL hls)
theorem a_dup2_x1 (X : ab_X E l G m cc nL own ini ret fr lo mc ms Post) {va vb : Value} (d : decode cc pc = .ok (.dup2_x1, 1)) (hva : va.category = 2) (hvb : vb.category = 1) (kk : ab_R E G m nL ce sl (pc + 1) lv (va :: vb :: va :: st) h) : ab_R E G m nL ce sl pc lv (va :: vb :: st) h := by
  obtain ⟨p, e, s, args, below, meth, c, R, Q, rfl, hQ, hx, hb, hml, hown, hts, hr, hlk, hK, r1, r2, r3, r4, hini⟩ := X
  intro H locs ls hH hL hls
  exact lv_dup2_x1_2 hx hb d ((ab_cat E va).trans hva) ((ab_cat E vb).trans hvb) (kk H locs ls hH hL hls)
theorem a_dup2_x2 (X : ab_X E l G m cc nL own ini ret fr lo mc ms Post) {va vb vd : Value} (d : decode cc pc = .ok (.dup2_x2, 1)) (hva : va.category = 2) (hvb : vb.category = 1) (hvd : vd.category = 1) (kk : ab_R E G m nL ce sl (pc + 1) lv (va :: vb :: vd :: va :: st) h) : ab_R E G m nL ce sl pc lv (va :: vb :: vd :: st) h := by
  obtain ⟨p, e, s, args, below, meth, c, R, Q, rfl, hQ, hx, hb, hml, hown, hts, hr, hlk, hK, r1, r2, r3, r4, hini⟩ := X
  intro H locs ls hH hL hls
  exact lv_dup2_x2_2 hx hb d ((ab_cat E va).trans hva) ((ab_cat E vb).trans hvb) ((ab_cat E vd).trans hvd) (kk H locs ls hH hL hls)
theorem a_if_eq (X : ab_X E l G m cc nL own ini ret fr lo mc ms Post) {x : Int32} {off : Int} (tgt : Nat) (d : decode cc pc = .ok (.ifCond .eq off, 3)) (ht : (pc : Int) + off = (tgt : Int)) (kt : x = 0 → ab_R E G m nL ce sl tgt lv st h) (kf : ¬ x = 0 → ab_R E G m nL ce sl (pc + 3) lv st h) : ab_R E G m nL ce sl pc lv (.int x :: st) h := by
  obtain ⟨p, e, s, args, below, meth, c, R, Q, rfl, hQ, hx, hb, hml, hown, hts, hr, hlk, hK, r1, r2, r3, r4, hini⟩ := X
  intro H locs ls hH hL hls
  exact lv_if_eq hx hb d ht (fun q => kt q H locs ls hH hL hls) (fun q => kf q H locs ls hH hL hls)
theorem a_icmp_eq (X : ab_X E l G m cc nL own ini ret fr lo mc ms Post) {x y : Int32} {off : Int} (tgt : Nat) (d : decode cc pc = .ok (.if_icmp .eq off, 3)) (ht : (pc : Int) + off = (tgt : Int)) (kt : x = y → ab_R E G m nL ce sl tgt lv st h) (kf : ¬ x = y → ab_R E G m nL ce sl (pc + 3) lv st h) : ab_R E G m nL ce sl pc lv (.int y :: .int x :: st) h := by
  obtain ⟨p, e, s, args, below, meth, c, R, Q, rfl, hQ, hx, hb, hml, hown, hts, hr, hlk, hK, r1, r2, r3, r4, hini⟩ := X
  intro H locs ls hH hL hls
  exact lv_icmp_eq hx hb d ht (fun q => kt q H locs ls hH hL hls) (fun q => kf q H locs ls hH hL hls)
theorem a_if_ne (X : ab_X E l G m cc nL own ini ret fr lo mc ms Post) {x : Int32} {off : Int} (tgt : Nat) (d : decode cc pc = .ok (.ifCond .ne off, 3)) (ht : (pc : Int) + off = (tgt : Int)) (kt : ¬ x = 0 → ab_R E G m nL ce sl tgt lv st h) (kf : x = 0 → ab_R E G m nL ce sl (pc + 3) lv st h) : ab_R E G m nL ce sl pc lv (.int x :: st) h := by
  obtain ⟨p, e, s, args, below, meth, c, R, Q, rfl, hQ, hx, hb, hml, hown, hts, hr, hlk, hK, r1, r2, r3, r4, hini⟩ := X
  intro H locs ls hH hL hls
  exact lv_if_ne hx hb d ht (fun q => kt q H locs ls hH hL hls) (fun q => kf q H locs ls hH hL hls)
theorem a_icmp_ne (X : ab_X E l G m cc nL own ini ret fr lo mc ms Post) {x y : Int32} {off : Int} (tgt : Nat) (d : decode cc pc = .ok (.if_icmp .ne off, 3)) (ht : (pc : Int) + off = (tgt : Int)) (kt : ¬ x = y → ab_R E G m nL ce sl tgt lv st h) (kf : x = y → ab_R E G m nL ce sl (pc + 3) lv st h) : ab_R E G m nL ce sl pc lv (.int y :: .int x :: st) h := by
  obtain ⟨p, e, s, args, below, meth, c, R, Q, rfl, hQ, hx, hb, hml, hown, hts, hr, hlk, hK, r1, r2, r3, r4, hini⟩ := X
  intro H locs ls hH hL hls
  exact lv_icmp_ne hx hb d ht (fun q => kt q H locs ls hH hL hls) (fun q => kf q H locs ls hH hL hls)
theorem a_if_lt (X : ab_X E l G m cc nL own ini ret fr lo mc ms Post) {x : Int32} {off : Int} (tgt : Nat) (d : decode cc pc = .ok (.ifCond .lt off, 3)) (ht : (pc : Int) + off = (tgt : Int)) (kt : x < 0 → ab_R E G m nL ce sl tgt lv st h) (kf : ¬ x < 0 → ab_R E G m nL ce sl (pc + 3) lv st h) : ab_R E G m nL ce sl pc lv (.int x :: st) h := by
  obtain ⟨p, e, s, args, below, meth, c, R, Q, rfl, hQ, hx, hb, hml, hown, hts, hr, hlk, hK, r1, r2, r3, r4, hini⟩ := X
  intro H locs ls hH hL hls
  exact lv_if_lt hx hb d ht (fun q => kt q H locs ls hH hL hls) (fun q => kf q H locs ls hH hL hls)
theorem a_icmp_lt (X : ab_X E l G m cc nL own ini ret fr lo mc ms Post) {x y : Int32} {off : Int} (tgt : Nat) (d : decode cc pc = .ok (.if_icmp .lt off, 3)) (ht : (pc : Int) + off = (tgt : Int)) (kt : x < y → ab_R E G m nL ce sl tgt lv st h) (kf : ¬ x < y → ab_R E G m nL ce sl (pc + 3) lv st h) : ab_R E G m nL ce sl pc lv (.int y :: .int x :: st) h := by
  obtain ⟨p, e, s, args, below, meth, c, R, Q, rfl, hQ, hx, hb, hml, hown, hts, hr, hlk, hK, r1, r2, r3, r4, hini⟩ := X
  intro H locs ls hH hL hls
  exact lv_icmp_lt hx hb d ht (fun q => kt q H locs ls hH hL hls) (fun q => kf q H locs ls hH hL hls)
theorem a_if_ge (X : ab_X E l G m cc nL own ini ret fr lo mc ms Post) {x : Int32} {off : Int} (tgt : Nat) (d : decode cc pc = .ok (.ifCond .ge off, 3)) (ht : (pc : Int) + off = (tgt : Int)) (kt : 0 ≤ x → ab_R E G m nL ce sl tgt lv st h) (kf : ¬ 0 ≤ x → ab_R E G m nL ce sl (pc + 3) lv st h) : ab_R E G m nL ce sl pc lv (.int x :: st) h := by
  obtain ⟨p, e, s, args, below, meth, c, R, Q, rfl, hQ, hx, hb, hml, hown, hts, hr, hlk, hK, r1, r2, r3, r4, hini⟩ := X
  intro H locs ls hH hL hls
  exact lv_if_ge hx hb d ht (fun q => kt q H locs ls hH hL hls) (fun q => kf q H locs ls hH hL hls)
theorem a_icmp_ge (X : ab_X E l G m cc nL own ini ret fr lo mc ms Post) {x y : Int32} {off : Int} (tgt : Nat) (d : decode cc pc = .ok (.if_icmp .ge off, 3)) (ht : (pc : Int) + off = (tgt : Int)) (kt : y ≤ x → ab_R E G m nL ce sl tgt lv st h) (kf : ¬ y ≤ x → ab_R E G m nL ce sl (pc + 3) lv st h) : ab_R E G m nL ce sl pc lv (.int y :: .int x :: st) h := by
  obtain ⟨p, e, s, args, below, meth, c, R, Q, rfl, hQ, hx, hb, hml, hown, hts, hr, hlk, hK, r1, r2, r3, r4, hini⟩ := X
  intro H locs ls hH hL hls
  exact lv_icmp_ge hx hb d ht (fun q => kt q H locs ls hH hL hls) (fun q => kf q H locs ls hH hL hls)
theorem a_if_gt (X : ab_X E l G m cc nL own ini ret fr lo mc ms Post) {x : Int32} {off : Int} (tgt : Nat) (d : decode cc pc = .ok (.ifCond .gt off, 3)) (ht : (pc : Int) + off = (tgt : Int)) (kt : 0 < x → ab_R E G m nL ce sl tgt lv st h) (kf : ¬ 0 < x → ab_R E G m nL ce sl (pc + 3) lv st h) : ab_R E G m nL ce sl pc lv (.int x :: st) h := by
  obtain ⟨p, e, s, args, below, meth, c, R, Q, rfl, hQ, hx, hb, hml, hown, hts, hr, hlk, hK, r1, r2, r3, r4, hini⟩ := X
  intro H locs ls hH hL hls
  exact lv_if_gt hx hb d ht (fun q => kt q H locs ls hH hL hls) (fun q => kf q H locs ls hH hL hls)
theorem a_icmp_gt (X : ab_X E l G m cc nL own ini ret fr lo mc ms Post) {x y : Int32} {off : Int} (tgt : Nat) (d : decode cc pc = .ok (.if_icmp .gt off, 3)) (ht : (pc : Int) + off = (tgt : Int)) (kt : y < x → ab_R E G m nL ce sl tgt lv st h) (kf : ¬ y < x → ab_R E G m nL ce sl (pc + 3) lv st h) : ab_R E G m nL ce sl pc lv (.int y :: .int x :: st) h := by
  obtain ⟨p, e, s, args, below, meth, c, R, Q, rfl, hQ, hx, hb, hml, hown, hts, hr, hlk, hK, r1, r2, r3, r4, hini⟩ := X
  intro H locs ls hH hL hls
  exact lv_icmp_gt hx hb d ht (fun q => kt q H locs ls hH hL hls) (fun q => kf q H locs ls hH hL hls)
theorem a_if_le (X : ab_X E l G m cc nL own ini ret fr lo mc ms Post) {x : Int32} {off : Int} (tgt : Nat) (d : decode cc pc = .ok (.ifCond .le off, 3)) (ht : (pc : Int) + off = (tgt : Int)) (kt : x ≤ 0 → ab_R E G m nL ce sl tgt lv st h) (kf : ¬ x ≤ 0 → ab_R E G m nL ce sl (pc + 3) lv st h) : ab_R E G m nL ce sl pc lv (.int x :: st) h := by
  obtain ⟨p, e, s, args, below, meth, c, R, Q, rfl, hQ, hx, hb, hml, hown, hts, hr, hlk, hK, r1, r2, r3, r4, hini⟩ := X
  intro H locs ls hH hL hls
  exact lv_if_le hx hb d ht (fun q => kt q H locs ls hH hL hls) (fun q => kf q H locs ls hH hL hls)
theorem a_icmp_le (X : ab_X E l G m cc nL own ini ret fr lo mc ms Post) {x y : Int32} {off : Int} (tgt : Nat) (d : decode cc pc = .ok (.if_icmp .le off, 3)) (ht : (pc : Int) + off = (tgt : Int)) (kt : x ≤ y → ab_R E G m nL ce sl tgt lv st h) (kf : ¬ x ≤ y → ab_R E G m nL ce sl (pc + 3) lv st h) : ab_R E G m nL ce sl pc lv (.int y :: .int x :: st) h := by
  obtain ⟨p, e, s, args, below, meth, c, R, Q, rfl, hQ, hx, hb, hml, hown, hts, hr, hlk, hK, r1, r2, r3, r4, hini⟩ := X
  intro H locs ls hH hL hls
  exact lv_icmp_le hx hb d ht (fun q => kt q H locs ls hH hL hls) (fun q => kf q H locs ls hH hL hls)
theorem a_goto (X : ab_X E l G m cc nL own ini ret fr lo mc ms Post) {off : Int} (tgt : Nat) (d : decode cc pc = .ok (.goto off, 3)) (ht : (pc : Int) + off = (tgt : Int)) (kk : ab_R E G m nL ce sl tgt lv st h) : ab_R E G m nL ce sl pc lv st h := by
  obtain ⟨p, e, s, args, below, meth, c, R, Q, rfl, hQ, hx, hb, hml, hown, hts, hr, hlk, hK, r1, r2, r3, r4, hini⟩ := X
  intro H locs ls hH hL hls
  exact lv_goto hx hb d ht (kk H locs ls hH hL hls)
theorem a_ldc (X : ab_X E l G m cc nL own ini ret fr lo mc ms Post) {i : Nat} {v : Int32} (hw : Cond.constant own i v ∈ ab_tbl) (d : decode cc pc = .ok (.ldc i, 2)) (kk : ab_R E G m nL ce sl (pc + 2) lv (.int v :: st) h) : ab_R E G m nL ce sl pc lv st h := by
  obtain ⟨p, e, s, args, below, meth, c, R, Q, rfl, hQ, hx, hb, hml, hown, hts, hr, hlk, hK, r1, r2, r3, r4, hini⟩ := X
  intro H locs ls hH hL hls
  exact W.ldc hx hb hown (hts _ hw) rfl d (kk H locs ls hH hL hls)
theorem a_ldc2 (X : ab_X E l G m cc nL own ini ret fr lo mc ms Post) {i : Nat} {v : Int64} (hw : Cond.constantLong own i v ∈ ab_tbl) (d : decode cc pc = .ok (.ldc2_w i, 3)) (kk : ab_R E G m nL ce sl (pc + 3) lv (.long v :: st) h) : ab_R E G m nL ce sl pc lv st h := by
  obtain ⟨p, e, s, args, below, meth, c, R, Q, rfl, hQ, hx, hb, hml, hown, hts, hr, hlk, hK, r1, r2, r3, r4, hini⟩ := X
  intro H locs ls hH hL hls
  exact W.ldc2 hx hb hown (hts _ hw) rfl d (kk H locs ls hH hL hls)
theorem ab_catS {E : ab_E} (st : List Value) : ((st.map (ab_v E)).map fun v => v.category).sum = (st.map fun v => v.category).sum := by
  rw [List.map_map]
  congr 1
  exact List.map_congr_left fun v _ => ab_cat E v
theorem ab_topi {x y : Int32} (e : x = y) (kk : ab_R E G m nL ce sl pc lv (.int y :: st) h) : ab_R E G m nL ce sl pc lv (.int x :: st) h := e ▸ kk
theorem ab_topl {x y : Int64} (e : x = y) (kk : ab_R E G m nL ce sl pc lv (.long y :: st) h) : ab_R E G m nL ce sl pc lv (.long x :: st) h := e ▸ kk
theorem a_incN (X : ab_X E l G m cc nL own ini ret fr lo mc ms Post) {i k : Nat} (d : decode cc pc = .ok (.iinc i 1, 3)) (hl : lv.lookup i = some (.int (nI k))) (hn : i < nL) (kk : ab_R E G m nL ce sl (pc + 3) (ab_s1 lv i (.int (nI (k + 1)))) st h) : ab_R E G m nL ce sl pc lv st h := a_iinc X d hl (nI_1 k) hn kk
theorem a_decN (X : ab_X E l G m cc nL own ini ret fr lo mc ms Post) {i k : Nat} (d : decode cc pc = .ok (.iinc i (-1), 3)) (hl : lv.lookup i = some (.int (nI (k + 1)))) (hn : i < nL) (kk : ab_R E G m nL ce sl (pc + 3) (ab_s1 lv i (.int (nI k))) st h) : ab_R E G m nL ce sl pc lv st h := a_iinc X d hl (pk_m1 k) hn kk
theorem a_mmax (X : ab_X E l G m cc nL own ini ret fr lo mc ms Post) {i : Nat} {x y : Int32} (hw : Cond.methodLink own i Lib.Math.max.name ∈ ab_tbl) (hw1 : Cond.static Lib.Math.max.name ∈ ab_tbl) (hw2 : Cond.initialized "java/lang/Math" ∈ ab_tbl) (hw3 : Cond.code Lib.Math.max.name Lib.Math.max.code 2 (some .int) ∈ ab_tbl) (d : decode cc pc = .ok (.invokestatic i, 3)) (hfr : 1 ≤ fr) (hlo : (st.map fun v => v.category).sum + 13 ≤ lo) (hce : ce ≤ mc) (hsl : sl ≤ ms) (kk : ab_R E G m nL ce sl (pc + 3) lv (.int (if x < y then y else x) :: st) h) : ab_R E G m nL ce sl pc lv (.int y :: .int x :: st) h := by
  obtain ⟨p, e, s, args, below, meth, c, R, Q, rfl, hQ, hx, hb, hml, hown, hts, hr, hlk, hK, r1, r2, r3, r4, hini⟩ := X
  intro H locs ls hH hL hls
  exact va_mmax hx hb (hml.trans hls.1.symm) hown (hts _ hw) (hts _ hw1) (hts _ hw2) (hts _ hw3) (by rw [r1]; exact hfr) (by rw [ab_catS, r2]; exact hlo) (by rw [r3]; exact hce) (by rw [r4]; exact hsl) d (kk H locs ls hH hL hls)
theorem a_mmin (X : ab_X E l G m cc nL own ini ret fr lo mc ms Post) {i : Nat} {x y : Int32} (hw : Cond.methodLink own i Lib.Math.min.name ∈ ab_tbl) (hw1 : Cond.static Lib.Math.min.name ∈ ab_tbl) (hw2 : Cond.initialized "java/lang/Math" ∈ ab_tbl) (hw3 : Cond.code Lib.Math.min.name Lib.Math.min.code 2 (some .int) ∈ ab_tbl) (d : decode cc pc = .ok (.invokestatic i, 3)) (hfr : 1 ≤ fr) (hlo : (st.map fun v => v.category).sum + 13 ≤ lo) (hce : ce ≤ mc) (hsl : sl ≤ ms) (kk : ab_R E G m nL ce sl (pc + 3) lv (.int (if y < x then y else x) :: st) h) : ab_R E G m nL ce sl pc lv (.int y :: .int x :: st) h := by
  obtain ⟨p, e, s, args, below, meth, c, R, Q, rfl, hQ, hx, hb, hml, hown, hts, hr, hlk, hK, r1, r2, r3, r4, hini⟩ := X
  intro H locs ls hH hL hls
  exact va_mmin hx hb (hml.trans hls.1.symm) hown (hts _ hw) (hts _ hw1) (hts _ hw2) (hts _ hw3) (by rw [r1]; exact hfr) (by rw [ab_catS, r2]; exact hlo) (by rw [r3]; exact hce) (by rw [r4]; exact hsl) d (kk H locs ls hH hL hls)
theorem a_lmax (X : ab_X E l G m cc nL own ini ret fr lo mc ms Post) {i : Nat} {x y : Int64} (hw : Cond.methodLink own i Lib.MathLoose.max_long.x ∈ ab_tbl) (hw1 : Cond.static Lib.MathLoose.max_long.x ∈ ab_tbl) (hw2 : Cond.initialized "java/lang/Math" ∈ ab_tbl) (hw3 : Cond.code Lib.MathLoose.max_long.x Lib.MathLoose.max_long.code 4 (some .long) ∈ ab_tbl) (d : decode cc pc = .ok (.invokestatic i, 3)) (hfr : 1 ≤ fr) (hlo : (st.map fun v => v.category).sum + 15 ≤ lo) (hce : ce ≤ mc) (hsl : sl ≤ ms) (kk : ab_R E G m nL ce sl (pc + 3) lv (.long (if y < x then x else y) :: st) h) : ab_R E G m nL ce sl pc lv (.long y :: .long x :: st) h := by
  obtain ⟨p, e, s, args, below, meth, c, R, Q, rfl, hQ, hx, hb, hml, hown, hts, hr, hlk, hK, r1, r2, r3, r4, hini⟩ := X
  intro H locs ls hH hL hls
  exact va_mmax_long hx hb (hml.trans hls.1.symm) hown (hts _ hw) (hts _ hw1) (hts _ hw2) (hts _ hw3) (by rw [r1]; exact hfr) (by rw [ab_catS, r2]; exact hlo) (by rw [r3]; exact hce) (by rw [r4]; exact hsl) d (kk H locs ls hH hL hls)
theorem a_lmin (X : ab_X E l G m cc nL own ini ret fr lo mc ms Post) {i : Nat} {x y : Int64} (hw : Cond.methodLink own i Lib.MathLoose.min_long.x ∈ ab_tbl) (hw1 : Cond.static Lib.MathLoose.min_long.x ∈ ab_tbl) (hw2 : Cond.initialized "java/lang/Math" ∈ ab_tbl) (hw3 : Cond.code Lib.MathLoose.min_long.x Lib.MathLoose.min_long.code 4 (some .long) ∈ ab_tbl) (d : decode cc pc = .ok (.invokestatic i, 3)) (hfr : 1 ≤ fr) (hlo : (st.map fun v => v.category).sum + 15 ≤ lo) (hce : ce ≤ mc) (hsl : sl ≤ ms) (kk : ab_R E G m nL ce sl (pc + 3) lv (.long (if y < x then y else x) :: st) h) : ab_R E G m nL ce sl pc lv (.long y :: .long x :: st) h := by
  obtain ⟨p, e, s, args, below, meth, c, R, Q, rfl, hQ, hx, hb, hml, hown, hts, hr, hlk, hK, r1, r2, r3, r4, hini⟩ := X
  intro H locs ls hH hL hls
  exact va_mmin_long hx hb (hml.trans hls.1.symm) hown (hts _ hw) (hts _ hw1) (hts _ hw2) (hts _ hw3) (by rw [r1]; exact hfr) (by rw [ab_catS, r2]; exact hlo) (by rw [r3]; exact hce) (by rw [r4]; exact hsl) d (kk H locs ls hH hL hls)
theorem ab_slL {E : ab_E} (av : List Value) : (lg_sl (av.map (ab_v E))).length = (lg_sl av).length := by
  induction av with
  | nil => rfl
  | cons v t ih =>
    show ((if (ab_v E v).category = 2 then [Slot.val (ab_v E v), .second] else [Slot.val (ab_v E v)]) ++ lg_sl (t.map (ab_v E))).length = ((if v.category = 2 then [Slot.val v, .second] else [Slot.val v]) ++ lg_sl t).length
    rw [List.length_append, List.length_append, ih, ab_cat]
    congr 1
    split <;> rfl
theorem ab_args {E : ab_E} (av : List Value) : ∀ i : Nat, lv_args i (av.map (ab_v E)) = ab_l E (lv_args i av) := by
  induction av with
  | nil => intro i; rfl
  | cons v t ih =>
    intro i
    show (i, ab_v E v) :: lv_args (if (ab_v E v).category = 2 then i + 2 else i + 1) (t.map (ab_v E)) = (i, ab_v E v) :: ab_l E (lv_args (if v.category = 2 then i + 2 else i + 1) t)
    rw [ih, ab_cat]
def ab_ix (i : Int32) (j n : Nat) : Prop := ¬ i < 0 ∧ i.toNatClampNeg = j ∧ j < n
theorem ab_ix_nI {j n : Nat} (hj : j < n) (hn : n < 2 ^ 31) : ab_ix (nI j) j n := ⟨nI_pos (by omega), nI_clamp (by omega), hj⟩
theorem ab_ix.in {i : Int32} {j n : Nat} (h : ab_ix i j n) : vp_in i n := fun q => by
  rcases q with q | q
  · exact h.1 q
  · rw [h.2.1] at q
    exact absurd h.2.2 (Nat.not_lt.mpr q)
/-- the k-th field of the class ci, under own's link idx -/
def ab_F (own : String) (idx ci k : Nat) (fin : Bool) (ty : FieldType) : Prop := ∃ (C : String) (T : u_T) (N : Nat) (ty0 : Nat → FieldType), classes[ci]? = some (C, T, N) ∧ k < N ∧ (∀ w ∈ u_ws C T N, w ∈ ab_tbl) ∧ Cond.fieldLink own idx (T k).1 (T k).2.1 (T k).2.2.1 ∈ ab_tbl ∧ (T k).2.2.2 = fin ∧ parseFieldDescriptor (T k).2.2.1 = some ty ∧ (∀ j, j < N → parseFieldDescriptor (T j).2.2.1 = some (ty0 j)) ∧ (∀ a, a < N → ∀ b, b < N → a ≠ b → (T a).2.1 ≠ (T b).2.1)
theorem ab_one {E : ab_E} {h : List ab_C} {H : Heap} {a : Nat} {x : ab_C} (hH : ab_H E h H) (ha : h[a]? = some x) : va_P E.1 classes [(ab_n E + a, ab_c E x)] H := fun j q hq => by
  match j, hq with
  | 0, hq => cases hq; exact hH.2.1 a _ ha
theorem ab_lc {E : ab_E} {locs : List Loc} {a i : Nat} (hL : ∀ q ∈ locs, ab_n E ≤ q.base) : ∀ q ∈ locs ++ [⟨ab_n E + a, i⟩], ab_n E ≤ q.base := fun q hq => by
  rcases List.mem_append.mp hq with g | g
  · exact hL q g
  · rw [List.mem_singleton] at g
    subst g
    show ab_n E ≤ ab_n E + a
    omega
theorem a_get (X : ab_X E l G m cc nL own ini ret fr lo mc ms Post) {i ci k a : Nat} {fin : Bool} {ty : FieldType} {fs : List Value} {v : Value} (hF : ab_F own i ci k fin ty) (d : decode cc pc = .ok (.getfield i, 3)) (ha : h[a]? = some (.inr (ci, fs))) (hv : fs[k]? = some v) (kk : ab_R E G m nL ce sl (pc + 3) lv (v :: st) h) : ab_R E G m nL ce sl pc lv (.ref (a + 1) :: st) h := by
  obtain ⟨p, e, s, args, below, meth, c, R, Q, rfl, hQ, hx, hb, hml, hown, hts, hr, hlk, hK, r1, r2, r3, r4, hini⟩ := X
  obtain ⟨C, T, N, ty0, hc, hk, hin, hw, -⟩ := hF
  intro H locs ls hH hL hls
  exact va_get hx hb hts hin hown hK.va (ab_one hH ha) 0 rfl hc k hk (hts _ hw) (fun _ h => h) (v := ab_v E v) (by rw [List.getElem?_map, hv]; rfl) d (kk H locs ls hH hL hls)
theorem a_put (X : ab_X E l G m cc nL own ini ret fr lo mc ms Post) {i ci k a : Nat} {ty : FieldType} {fs : List Value} {v : Value} (hF : ab_F own i ci k false ty) (d : decode cc pc = .ok (.putfield i, 3)) (ha : h[a]? = some (.inr (ci, fs))) (hl : k < fs.length) (hn : narrow ty (ab_v E v) = ab_v E v) (hfit : fits ty (ab_v E v) = true) (kk : ab_R E G m nL ce sl (pc + 3) lv st (h.set a (.inr (ci, fs.set k v)))) : ab_R E G m nL ce sl pc lv (v :: .ref (a + 1) :: st) h := by
  obtain ⟨p, e, s, args, below, meth, c, R, Q, rfl, hQ, hx, hb, hml, hown, hts, hr, hlk, hK, r1, r2, r3, r4, hini⟩ := X
  obtain ⟨C, T, N, ty0, hc, hk, hin, hw, hfin, hd, hty, hnm⟩ := hF
  intro H locs ls hH hL hls
  have hap := va_apart (own := own) hts hin ty0 hty hnm hK.va hc
  obtain ⟨r, h1, cell, q1, q2, q3, q4⟩ := hH.2.1 a _ ha
  have hr : r = (C, T, N) := Option.some.inj (h1.symm.trans hc)
  subst hr
  obtain ⟨hS, hfc, kC, hkC, hkind⟩ := hK.1 ci _ hc
  obtain ⟨cf, kf, fi, f, hi, hsl⟩ := hS k hk
  have hlay := hts _ (hin _ (u_in_lay hk))
  unfold u_lay at hlay
  rw [if_neg (by rw [hfin]; decide)] at hlay
  have hst := (u_facts hfc hkC (u_lays hts hin hk) hi).1
  have h6 := u_store hfc hkC hkind hlay hi hd hn hfit
  refine W.putK hx hb (f := f) ⟨hown, hts _ hw, ⟨_, _, _, hi⟩, hst⟩ (by rw [q2]; exact h6) q1 q3 (by rw [hsl]; exact k2_hasslot (q4 k hk)) rfl rfl d fun H' e1 e2 e3 => ?_
  rw [hsl] at e1 ⊢
  refine kk H' _ ls (hH.set ?_ e2 e3) (ab_lc hL) hls
  refine ⟨_, hc, t_OB.to (V := updV (vp_V (fs.map (ab_v E))) k (ab_v E v)) ⟨_, e1, q2, q3, t_set q4 hap hk _⟩ (fun j _ => ?_)⟩
  rw [List.map_set]
  exact vp_updV_set (by simpa using hl) _ j
theorem a_putF (X : ab_X E l G m cc nL own true ret fr lo mc ms Post) {i ci k a : Nat} {ty : FieldType} {fs : List Value} {v : Value} (hF : ab_F own i ci k true ty) (hdc : ∀ (C : String) (T : u_T) (N : Nat), classes[ci]? = some (C, T, N) → (T k).1 = own) (d : decode cc pc = .ok (.putfield i, 3)) (ha : h[a]? = some (.inr (ci, fs))) (hl : k < fs.length) (hn : narrow ty (ab_v E v) = ab_v E v) (hfit : fits ty (ab_v E v) = true) (kk : ab_R E G m nL ce sl (pc + 3) lv st (h.set a (.inr (ci, fs.set k v)))) : ab_R E G m nL ce sl pc lv (v :: .ref (a + 1) :: st) h := by
  obtain ⟨p, e, s, args, below, meth, c, R, Q, rfl, hQ, hx, hb, hml, hown, hts, hr, hlk, hK, r1, r2, r3, r4, hini⟩ := X
  obtain ⟨C, T, N, ty0, hc, hk, hin, hw, hfin, hd, hty, hnm⟩ := hF
  have hdecl := hdc C T N hc
  intro H locs ls hH hL hls
  have hap := va_apart (own := own) hts hin ty0 hty hnm hK.va hc
  obtain ⟨r, h1, cell, q1, q2, q3, q4⟩ := hH.2.1 a _ ha
  have hr : r = (C, T, N) := Option.some.inj (h1.symm.trans hc)
  subst hr
  obtain ⟨hS, hfc, kC, hkC, hkind⟩ := hK.1 ci _ hc
  obtain ⟨cf, kf, fi, f, hi, hsl⟩ := hS k hk
  have hlay := hts _ (hin _ (u_in_lay hk))
  unfold u_lay at hlay
  rw [if_pos hfin] at hlay
  have hst := (u_facts hfc hkC (u_lays hts hin hk) hi).1
  have hcf : m.cls = cf := by
    obtain ⟨_, _, c', _, _, _, -, -, hf', -, -, -, hown2, -⟩ := Cond.laysFinal_spec hlay
    have e1 : c' = cf := by have := hi.symm.trans hf'; simp at this; exact this.1.symm
    rw [hdecl] at hown2
    rw [← e1]; exact Option.some.inj (hown.symm.trans hown2)
  have h6 := u_fits hfc hkC hkind (Or.inr hlay) hi hd hn hfit
  refine W.putFinK hx hb hown (hts _ hw) hi hst hcf (hini rfl) (by rw [q2]; exact h6) q1 q3 (by rw [hsl]; exact k2_hasslot (q4 k hk)) rfl rfl d fun H' e1 e2 e3 => ?_
  rw [hsl] at e1 ⊢
  refine kk H' _ ls (hH.set ?_ e2 e3) (ab_lc hL) hls
  refine ⟨_, hc, t_OB.to (V := updV (vp_V (fs.map (ab_v E))) k (ab_v E v)) ⟨_, e1, q2, q3, t_set q4 hap hk _⟩ (fun j _ => ?_)⟩
  rw [List.map_set]
  exact vp_updV_set (by simpa using hl) _ j
theorem a_iald (X : ab_X E l G m cc nL own ini ret fr lo mc ms Post) {t n a j : Nat} {f : Nat → Int32} {i : Int32} (d : decode cc pc = .ok (.iaload, 1)) (ha : h[a]? = some (.inl (t, n, .inl f))) (ht : ab_tys[t]? = some .int) (hin : ab_ix i j n) (kk : ab_R E G m nL ce sl (pc + 1) lv (.int (f j) :: st) h) : ab_R E G m nL ce sl pc lv (.int i :: .ref (a + 1) :: st) h := by
  obtain ⟨p, e, s, args, below, meth, c, R, Q, rfl, hQ, hx, hb, hml, hown, hts, hr, hlk, hK, r1, r2, r3, r4, hini⟩ := X
  intro H locs ls hH hL hls
  exact W.iald (v := .int (f j)) hx hb (hH.2.1 a _ ha) ((hK.2.1 t _ ht).1 n (fun j => .int (f j))) (fun q => by cases q) (by show ¬ (i < 0 ∨ (arrV _ _ _).slots.size ≤ _); rw [arrV_size]; exact hin.in) (by show (arrV _ _ _).slots[_]? = _; rw [hin.2.1]; exact arrV_read _ _ hin.2.2) rfl rfl d (kk H locs ls hH hL hls)
theorem a_lald (X : ab_X E l G m cc nL own ini ret fr lo mc ms Post) {t n a j : Nat} {f : Nat → Int64} {i : Int32} (d : decode cc pc = .ok (.laload, 1)) (ha : h[a]? = some (.inl (t, n, .inr (.inl f)))) (ht : ab_tys[t]? = some .long) (hin : ab_ix i j n) (kk : ab_R E G m nL ce sl (pc + 1) lv (.long (f j) :: st) h) : ab_R E G m nL ce sl pc lv (.int i :: .ref (a + 1) :: st) h := by
  obtain ⟨p, e, s, args, below, meth, c, R, Q, rfl, hQ, hx, hb, hml, hown, hts, hr, hlk, hK, r1, r2, r3, r4, hini⟩ := X
  intro H locs ls hH hL hls
  exact W.lald (v := .long (f j)) hx hb (hH.2.1 a _ ha) ((hK.2.1 t _ ht).1 n (fun j => .long (f j))) (fun q => by cases q) (by show ¬ (i < 0 ∨ (arrV _ _ _).slots.size ≤ _); rw [arrV_size]; exact hin.in) (by show (arrV _ _ _).slots[_]? = _; rw [hin.2.1]; exact arrV_read _ _ hin.2.2) rfl rfl d (kk H locs ls hH hL hls)
theorem a_aald (X : ab_X E l G m cc nL own ini ret fr lo mc ms Post) {t n a j r : Nat} {ty : FieldType} {f : Nat → Option Nat} {i : Int32} (d : decode cc pc = .ok (.aaload, 1)) (ha : h[a]? = some (.inl (t, n, .inr (.inr (.inr (.inr f)))))) (ht : ab_tys[t]? = some ty) (hty : ty.isReference = true) (hin : ab_ix i j n) (hf : f j = some r) (kk : ab_R E G m nL ce sl (pc + 1) lv (.ref r :: st) h) : ab_R E G m nL ce sl pc lv (.int i :: .ref (a + 1) :: st) h := by
  obtain ⟨p, e, s, args, below, meth, c, R, Q, rfl, hQ, hx, hb, hml, hown, hts, hr, hlk, hK, r1, r2, r3, r4, hini⟩ := X
  intro H locs ls hH hL hls
  refine W.aald (v := .ref (ab_ad E r)) (ty := ty) hx hb (hH.2.1 a _ ha) ((hK.2.1 t _ ht).1 n (fun j => va_rf ((f j).map (ab_ad E)))) hty (fun q => by cases q) (by show ¬ (i < 0 ∨ (arrV _ _ _).slots.size ≤ _); rw [arrV_size]; exact hin.in) (by show (arrV _ _ _).slots[_]? = _; rw [hin.2.1]; refine (arrV_read _ _ hin.2.2).trans ?_; show some (va_rf ((f j).map (ab_ad E))) = _; rw [hf]; rfl) rfl rfl d (kk H locs ls hH hL hls)
theorem a_iast (X : ab_X E l G m cc nL own ini ret fr lo mc ms Post) {t n a j : Nat} {f : Nat → Int32} {i x : Int32} (d : decode cc pc = .ok (.iastore, 1)) (ha : h[a]? = some (.inl (t, n, .inl f))) (ht : ab_tys[t]? = some .int) (hin : ab_ix i j n) (kk : ab_R E G m nL ce sl (pc + 1) lv st (h.set a (.inl (t, n, .inl (upd f j x))))) : ab_R E G m nL ce sl pc lv (.int x :: .int i :: .ref (a + 1) :: st) h := by
  obtain ⟨p, e, s, args, below, meth, c, R, Q, rfl, hQ, hx, hb, hml, hown, hts, hr, hlk, hK, r1, r2, r3, r4, hini⟩ := X
  intro H locs ls hH hL hls
  refine W.iast hx hb (hH.2.1 a _ ha) ((hK.2.1 t _ ht).1 n (fun j => .int (f j))) (fun q => by cases q) (by show ¬ (i < 0 ∨ (arrV _ _ _).slots.size ≤ _); rw [arrV_size]; exact hin.in) rfl rfl d fun H1 e z oq => ?_
  refine kk H1 _ ls (hH.set ?_ z oq) (ab_lc hL) hls
  show H1[_]? = some (vp_cell _ _)
  rw [e]
  show some ((arrV (E.2.1 t) n (fun j => .int (f j))).setSlot _ _) = some (arrV (E.2.1 t) n (fun i => .int (upd f j x i)))
  rw [arrV_store, hin.2.1]
  congr 2
  funext q
  by_cases hq : q = j
  · subst hq
    simp [updV, upd]
  · simp [updV, upd, hq]
theorem a_last (X : ab_X E l G m cc nL own ini ret fr lo mc ms Post) {t n a j : Nat} {f : Nat → Int64} {i : Int32} {x : Int64} (d : decode cc pc = .ok (.lastore, 1)) (ha : h[a]? = some (.inl (t, n, .inr (.inl f)))) (ht : ab_tys[t]? = some .long) (hin : ab_ix i j n) (kk : ab_R E G m nL ce sl (pc + 1) lv st (h.set a (.inl (t, n, .inr (.inl (vp_updL f j x)))))) : ab_R E G m nL ce sl pc lv (.long x :: .int i :: .ref (a + 1) :: st) h := by
  obtain ⟨p, e, s, args, below, meth, c, R, Q, rfl, hQ, hx, hb, hml, hown, hts, hr, hlk, hK, r1, r2, r3, r4, hini⟩ := X
  intro H locs ls hH hL hls
  refine W.last hx hb (hH.2.1 a _ ha) ((hK.2.1 t _ ht).1 n (fun j => .long (f j))) (fun q => by cases q) (by show ¬ (i < 0 ∨ (arrV _ _ _).slots.size ≤ _); rw [arrV_size]; exact hin.in) rfl rfl d fun H1 e z oq => ?_
  refine kk H1 _ ls (hH.set ?_ z oq) (ab_lc hL) hls
  show H1[_]? = some (vp_cell _ _)
  rw [e]
  show some ((arrV (E.2.1 t) n (fun j => .long (f j))).setSlot _ _) = some (arrV (E.2.1 t) n (fun i => .long (vp_updL f j x i)))
  rw [arrV_store, hin.2.1]
  congr 2
  funext q
  by_cases hq : q = j
  · subst hq
    simp [updV, vp_updL]
  · simp [updV, vp_updL, hq]
theorem a_aast (X : ab_X E l G m cc nL own ini ret fr lo mc ms Post) {t n a b j ci : Nat} {r : vw_C} {fs : List Value} {f : Nat → Option Nat} {i : Int32} (d : decode cc pc = .ok (.aastore, 1)) (ha : h[a]? = some (.inl (t, n, .inr (.inr (.inr (.inr f)))))) (hb0 : h[b]? = some (.inr (ci, fs))) (hc : classes[ci]? = some r) (ht : ab_tys[t]? = some (.object r.1)) (hin : ab_ix i j n) (kk : ab_R E G m nL ce sl (pc + 1) lv st (h.set a (.inl (t, n, .inr (.inr (.inr (.inr (va_up f j (some (b + 1))))))))) ) : ab_R E G m nL ce sl pc lv (.ref (b + 1) :: .int i :: .ref (a + 1) :: st) h := by
  obtain ⟨p, e, s, args, below, meth, c, R, Q, rfl, hQ, hx, hb, hml, hown, hts, hr, hlk, hK, r1, r2, r3, r4, hini⟩ := X
  intro H locs ls hH hL hls
  obtain ⟨r', hr', cellV, g1, g2, g3, -⟩ := hH.2.1 b _ hb0
  have hcls := (hK.1 ci r hc).2
  obtain ⟨kA, comp, k1, k2, k3, -⟩ := (hK.2.1 t _ ht).2
  have hcomp : comp = E.1.1 ci := Option.some.inj (k3.symm.trans hcls.1)
  subst hcomp
  obtain ⟨kC, hkC, -⟩ := hcls.2
  refine W.aast hx hb (hH.2.1 a _ ha) (fun q h => by cases h) (fun h => by cases h) k1 k2 rfl hkC ⟨hin.1, by show _ < (arrV _ _ _).slots.size; rw [arrV_size, hin.2.1]; exact hin.2.2⟩ g1 (fun q h => by rw [g3] at h; cases h) (by rw [g2]; exact hkC) (by rw [g2]; exact va_assign hcls) rfl rfl d fun H1 e z oq => ?_
  refine kk H1 _ ls (hH.set ?_ z oq) (ab_lc hL) hls
  show H1[_]? = some (vp_cell _ _)
  rw [e]
  show some ((arrV (E.2.1 t) n (fun j => va_rf ((f j).map (ab_ad E)))).setSlot _ (.ref (ab_n E + b))) = some (arrV (E.2.1 t) n (fun i => va_rf ((va_up f j (some (b + 1)) i).map (ab_ad E))))
  rw [arrV_store, hin.2.1]
  congr 2
  funext q
  by_cases hq : q = j
  · subst hq
    simp [updV, va_up, va_rf, ab_ad]
  · simp [updV, va_up, hq]
theorem a_alen (X : ab_X E l G m cc nL own ini ret fr lo mc ms Post) {t a : Nat} {ty : FieldType} {x : vp_A} (d : decode cc pc = .ok (.arraylength, 1)) (ha : h[a]? = some (.inl (t, x))) (ht : ab_tys[t]? = some ty) (kk : ab_R E G m nL ce sl (pc + 1) lv (.int (nI x.1) :: st) h) : ab_R E G m nL ce sl pc lv (.ref (a + 1) :: st) h := by
  obtain ⟨p, e, s, args, below, meth, c, R, Q, rfl, hQ, hx, hb, hml, hown, hts, hr, hlk, hK, r1, r2, r3, r4, hini⟩ := X
  intro H locs ls hH hL hls
  have hK2 : va_K E.1 classes [(E.2.1 t, ty)] s := ⟨hK.1, fun k q hk => by
    match k, hk with
    | 0, hk => cases hk; exact hK.2.1 t ty ht⟩
  exact va_alen hx hb hK2 (ab_one hH ha) 0 0 rfl rfl (v := nI x.1) rfl d (kk H locs ls hH hL hls)
/-- the script -/
theorem a_sld (X : ab_X E l G m cc nL own ini ret fr lo mc ms Post) {j : Nat} {i : Int32} (d : decode cc pc = .ok (.iaload, 1)) (hin : ab_ix i j E.2.2.2.2.2.1) (kk : ab_R E G m nL ce sl (pc + 1) lv (.int (E.2.2.2.2.2.2 j) :: st) h) : ab_R E G m nL ce sl pc lv (.int i :: .ref 0 :: st) h := by
  obtain ⟨p, e, s, args, below, meth, c, R, Q, rfl, hQ, hx, hb, hml, hown, hts, hr, hlk, hK, r1, r2, r3, r4, hini⟩ := X
  intro H locs ls hH hL hls
  obtain ⟨-, -, -, -, -, -, ⟨scr, h1, h2, h3, h4, h5⟩, h8⟩ := hK
  exact W.iald (v := .int (E.2.2.2.2.2.2 j)) hx hb (by show H[E.2.2.1]? = _; rw [hH.2.2 _ h8]; exact h1) h2 h3 (by rw [h4]; exact hin.in) (by rw [hin.2.1]; exact h5 _ hin.2.2) rfl rfl d (kk H locs ls hH hL hls)
theorem a_slen (X : ab_X E l G m cc nL own ini ret fr lo mc ms Post) (d : decode cc pc = .ok (.arraylength, 1)) (kk : ab_R E G m nL ce sl (pc + 1) lv (.int (nI E.2.2.2.2.2.1) :: st) h) : ab_R E G m nL ce sl pc lv (.ref 0 :: st) h := by
  obtain ⟨p, e, s, args, below, meth, c, R, Q, rfl, hQ, hx, hb, hml, hown, hts, hr, hlk, hK, r1, r2, r3, r4, hini⟩ := X
  intro H locs ls hH hL hls
  obtain ⟨-, -, -, -, -, -, ⟨scr, h1, h2, h3, h4, h5⟩, h8⟩ := hK
  exact W.alen (n := nI E.2.2.2.2.2.1) hx hb (by show H[E.2.2.1]? = _; rw [hH.2.2 _ h8]; exact h1) h2 (by rw [h4]; rfl) rfl rfl d (kk H locs ls hH hL hls)
/-- a new object of the class ci, as own's link idx names it -/
def ab_N (own : String) (idx ci : Nat) (fs : List Value) (N : Nat) : Prop := ∃ (C : String) (T : u_T) (ty0 : Nat → FieldType), classes[ci]? = some (C, T, N) ∧ (∀ w ∈ u_ws C T N, w ∈ ab_tbl) ∧ (∀ j, j < N → parseFieldDescriptor (T j).2.2.1 = some (ty0 j)) ∧ Cond.classLink own idx C ∈ ab_tbl ∧ Cond.instantiable C N ∈ ab_tbl ∧ Cond.initialized C ∈ ab_tbl ∧ (∀ j, j < N → defaultValue (ty0 j) = vp_V fs j) ∧ (∀ v ∈ fs, ∀ k, v ≠ .ref k)
theorem ab_nr {E : ab_E} {fs : List Value} (h : ∀ v ∈ fs, ∀ k, v ≠ .ref k) : fs.map (ab_v E) = fs := by
  refine (List.map_congr_left (g := id) fun v hv => ?_).trans (List.map_id _)
  cases v with
  | ref k => exact absurd rfl (h _ hv k)
  | _ => rfl
theorem a_new (X : ab_X E l G m cc nL own ini ret fr lo mc ms Post) {i ci N : Nat} {fs : List Value} (hN : ab_N own i ci fs N) (d : decode cc pc = .ok (.new i, 3)) (hce : ce + 1 ≤ mc) (hsl : sl + N ≤ ms) (kk : ab_R E G m nL (ce + 1) (sl + N) (pc + 3) lv (.ref (h.length + 1) :: st) (h ++ [.inr (ci, fs)])) : ab_R E G m nL ce sl pc lv st h := by
  obtain ⟨p, e, s, args, below, meth, c, R, Q, rfl, hQ, hx, hb, hml, hown, hts, hr, hlk, hK, r1, r2, r3, r4, hini⟩ := X
  obtain ⟨C, T, ty0, hc, hin, hty, w1, w2, w3, hfs, hnr⟩ := hN
  intro H locs ls hH hL hls
  have hKn := hK.1 ci _ hc
  refine W.newcK hx hb hown (hts _ w1) (hts _ w2) (hts _ w3) rfl d (by rw [r3]; exact hce) (by rw [r4]; exact hsl) hKn.2.1 rfl fun H1 kC hkC e1 z1 o1 => ?_
  have hs := hH.1
  rw [hs] at e1
  have hg := kk H1 locs ls (hH.push (x := .inr (ci, fs)) ⟨_, hc, by rw [ab_nr hnr]; exact (u_born ty0 hts hin hKn hkC e1 hty).to hfs⟩ z1 o1) hL hls
  rw [hs]
  exact hg
theorem a_newa (X : ab_X E l G m cc nL own ini ret fr lo mc ms Post) {t N : Nat} {n : Int32} {aty : ArrayType} {a0 : vp_A} (d : decode cc pc = .ok (.newarray aty, 2)) (hw : Cond.arrayClass (newarray.typeOf aty) ∈ ab_tbl) (ht : ab_tys[t]? = some (newarray.typeOf aty)) (hn : ¬ n < 0) (hN : n.toNatClampNeg = N) (hby : N * componentBytes (newarray.typeOf aty) ≤ 536870912) (ha : ∀ cA : ClassId, vp_cell cA (ab_a E a0) = arrV cA N (fun _ => defaultValue (newarray.typeOf aty))) (hnm : ∀ (U : State) (cA : ClassId), va_RA U cA (newarray.typeOf aty) → U.vm.findClass ("[" ++ (newarray.typeOf aty).toString) = some cA) (hce : ce + 1 ≤ mc) (hsl : sl + N ≤ ms) (kk : ab_R E G m nL (ce + 1) (sl + N) (pc + 2) lv (.ref (h.length + 1) :: st) (h ++ [.inl (t, a0)])) : ab_R E G m nL ce sl pc lv (.int n :: st) h := by
  obtain ⟨p, e, s, args, below, meth, c, R, Q, rfl, hQ, hx, hb, hml, hown, hts, hr, hlk, hK, r1, r2, r3, r4, hini⟩ := X
  intro H locs ls hH hL hls
  refine va_newaK hx hb (hts _ hw) rfl d rfl hn hN hby (by rw [r3]; exact hce) (by rw [r4]; exact hsl) rfl fun H1 cA e1 z1 o1 hAr hNm => ?_
  have hcA : cA = E.2.1 t := Option.some.inj (hNm.symm.trans (hnm _ _ (hK.2.1 t _ ht).2))
  subst hcA
  have hs := hH.1
  rw [hs] at e1
  have hg := kk H1 locs ls (hH.push (x := .inl (t, a0)) (by show H1[_]? = some (vp_cell _ _); rw [e1, ← ha]) z1 o1) hL hls
  rw [hs]
  exact hg
theorem a_newq (X : ab_X E l G m cc nL own ini ret fr lo mc ms Post) {i t N : Nat} {n : Int32} {C : String} (d : decode cc pc = .ok (.anewarray i, 3)) (hw : Cond.classLink own i C ∈ ab_tbl) (hao : C ∈ ab_ao) (ht : ab_tys[t]? = some (.object C)) (hn : ¬ n < 0) (hN : n.toNatClampNeg = N) (hby : N * 4 ≤ 536870912) (hce : ce + 1 ≤ mc) (hsl : sl + N ≤ ms) (kk : ab_R E G m nL (ce + 1) (sl + N) (pc + 3) lv (.ref (h.length + 1) :: st) (h ++ [.inl (t, N, .inr (.inr (.inr (.inr (fun _ => none)))))])) : ab_R E G m nL ce sl pc lv (.int n :: st) h := by
  obtain ⟨p, e, s, args, below, meth, c, R, Q, rfl, hQ, hx, hb, hml, hown, hts, hr, hlk, hK, r1, r2, r3, r4, hini⟩ := X
  intro H locs ls hH hL hls
  subst hN
  refine W.anew hx hb hown (hts _ hw) (va_AO.use (hK.2.2.2.2.1 C hao)) rfl d rfl hn hby (by rw [r3]; exact hce) (by rw [r4]; exact hsl) fun cA kA comp f1 f2 f3 f4 => ?_
  obtain ⟨-, -, -, -, -, hNm⟩ := (hK.2.1 t _ ht).2
  have hcA : cA = E.2.1 t := Option.some.inj (f1.symm.trans hNm)
  subst hcA
  have hs := hH.1
  refine W.eq (congrArg (fun z => F0 m (pc + 3) ls (.ref z :: st.map (ab_v E))) hs) ?_
  refine kk _ locs ls (hH.push (x := .inl (t, n.toNatClampNeg, .inr (.inr (.inr (.inr (fun _ => none)))))) ?_ (Array.size_push ..) (fun q hq => by rw [Array.getElem?_push, if_neg (Nat.ne_of_lt hq)])) hL hls
  show (Array.push H _)[_]? = some (vp_cell _ _)
  rw [← hs, Array.getElem?_push_size, arrV_new]
  rfl
theorem ab_outer (c : ClassId) (N h0 : Nat) : ∀ i : Nat, Jvm.Free.Multi.outerC c N h0 i = arrV c N (fun j => va_rf (if j < i then some (h0 + 1 + j) else none))
  | 0 => by
    show ({ cls := c, slots := Array.replicate N .null, vm := .none } : Cell) = _
    rw [arrV_new]
    refine congrArg (arrV c N) (funext fun j => ?_)
    simp [va_rf]
  | i + 1 => by
    show (Jvm.Free.Multi.outerC c N h0 i).setSlot i (.ref (h0 + 1 + i)) = _
    rw [ab_outer c N h0 i, arrV_store]
    refine congrArg (arrV c N) (funext fun j => ?_)
    by_cases e : j = i
    · subst e
      simp [updV, va_rf]
    · by_cases h : j < i
      · simp [updV, e, h, Nat.lt_succ_of_lt h]
      · simp [updV, e, h, show ¬ j < i + 1 by omega]
/-- new T[n][k] -/
theorem a_mna (X : ab_X E l G m cc nL own ini ret fr lo mc ms Post) {i to ti N K : Nat} {n k : Int32} {ty : FieldType} {z : vp_A} (d : decode cc pc = .ok (.multianewarray i 2, 4)) (hw : Cond.classLink own i ("[" ++ (FieldType.array ty).toString) ∈ ab_tbl) (haa : ty ∈ ab_aa) (hwa : Cond.arrayClass ty ∈ ab_tbl) (hto : ab_tys[to]? = some (.array ty)) (hti : ab_tys[ti]? = some ty) (hob : ∀ (U : State) (cA : ClassId), va_RA U cA ty → U.vm.findClass (FieldType.array ty).toString = some cA)
    (hn : ¬ n < 0) (hk : ¬ k < 0) (hN : n.toNatClampNeg = N) (hM : k.toNatClampNeg = K) (hb1 : N * 4 ≤ 536870912) (hb2 : K * componentBytes ty ≤ 536870912) (hb3 : K ≤ 536870912) (hdf : fits ty (defaultValue ty) = true) (hdd : (defaultValue ty).isDefault = true) (hz : ∀ c : ClassId, Jvm.Free.Multi.innerC c K (defaultValue ty) = vp_cell c (ab_a E z)) (hce : ce + (1 + N) ≤ mc) (hsl : sl + (N + N * K) ≤ ms)
    (kk : ab_R E G m nL (ce + 1 + N) (sl + N + N * K) (pc + 4) lv (.ref (h.length + 1) :: st) (h ++ (.inl (to, N, .inr (.inr (.inr (.inr (fun j => if j < N then some (h.length + 2 + j) else none))))) :: List.replicate N (.inl (ti, z))))) : ab_R E G m nL ce sl pc lv (.int k :: .int n :: st) h := by
  obtain ⟨p, e, s, args, below, meth, c, R, Q, rfl, hQ, hx, hb, hml, hown, hts, hr, hlk, hK, r1, r2, r3, r4, hini⟩ := X
  intro H locs ls hH hL hls
  subst hN
  subst hM
  intro T hT Xs
  obtain ⟨vm₁, cA, comp, -, fA, fC, hO, -, X', step⟩ := Xs.multianewarray2F hx hown (hts _ hw) (hK.2.2.2.2.2.1 ty haa) (hts _ hwa) (g := F0 m pc ls (.int k :: .int n :: st.map (ab_v E))) rfl (by rw [hb]; exact d) rfl hn hk hb1 hb2 hb3 hdf hdd (by rw [r3]; exact hce) (by rw [r4]; exact hsl)
  have hcA : cA = E.2.1 to := Option.some.inj (fA.symm.trans (hK.2.1 to _ hto).2)
  have hcp : comp = E.2.1 ti := Option.some.inj (fC.symm.trans (hob _ _ (hK.2.1 ti _ hti).2))
  subst hcA
  subst hcp
  generalize hF : Jvm.Free.Multi.fill (T.setVm vm₁) (E.2.1 to) (E.2.1 ti) n.toNatClampNeg k.toNatClampNeg (defaultValue ty) n.toNatClampNeg = F at X' step
  have hTh : (T.setVm vm₁).heap = H := hT
  obtain ⟨f1, f2, -, -⟩ := Jvm.Free.Multi.fill_facts (T.setVm vm₁) (E.2.1 to) (E.2.1 ti) n.toNatClampNeg k.toNatClampNeg (defaultValue ty) n.toNatClampNeg
  rw [hF, hTh] at f1 f2
  have hold : ∀ x : Nat, x < H.size → F.heap[x]? = H[x]? := fun x hx => by
    have := Jvm.Free.Multi.fill_old (T.setVm vm₁) (E.2.1 to) (E.2.1 ti) n.toNatClampNeg k.toNatClampNeg (defaultValue ty) (a := x) (by rw [hTh]; exact hx) n.toNatClampNeg
    rw [hF, hTh] at this
    exact this
  have hrow : ∀ j : Nat, j < n.toNatClampNeg → F.heap[H.size + 1 + j]? = some (vp_cell (E.2.1 ti) (ab_a E z)) := fun j hj => by
    have := Jvm.Free.Multi.fill_inner (T.setVm vm₁) (E.2.1 to) (E.2.1 ti) n.toNatClampNeg k.toNatClampNeg (defaultValue ty) n.toNatClampNeg j hj
    rw [hF, hTh, hz] at this
    exact this
  have hs := hH.1
  have hat : ∀ (j : Nat) (x : ab_C), ((.inl (to, n.toNatClampNeg, .inr (.inr (.inr (.inr (fun j => if j < n.toNatClampNeg then some (h.length + 2 + j) else none))))) :: List.replicate n.toNatClampNeg (.inl (ti, z))) : List ab_C)[j]? = some x → va_at E.1 classes (ab_n E + (h.length + j), ab_c E x) F.heap := by
    intro j x hx
    match j, hx with
    | 0, hx =>
      cases hx
      show F.heap[ab_n E + h.length]? = some (arrV (E.2.1 to) n.toNatClampNeg (fun j => va_rf ((if j < n.toNatClampNeg then some (h.length + 2 + j) else none : Option Nat).map (ab_ad E))))
      rw [← hs, f2, ab_outer]
      congr 2
      funext j
      by_cases hj : j < n.toNatClampNeg
      · rw [if_pos hj, if_pos hj, hs]
        show Value.ref (ab_n E + h.length + 1 + j) = Value.ref (ab_ad E (h.length + 2 + j))
        rw [show h.length + 2 + j = (h.length + 1 + j) + 1 by omega]
        show Value.ref (ab_n E + h.length + 1 + j) = Value.ref (ab_n E + (h.length + 1 + j))
        rw [show ab_n E + h.length + 1 + j = ab_n E + (h.length + 1 + j) from by omega]
      · rw [if_neg hj, if_neg hj]
        rfl
    | j + 1, hx =>
      have hx : (List.replicate n.toNatClampNeg (Sum.inl (ti, z) : ab_C))[j]? = some x := hx
      rw [List.getElem?_replicate] at hx
      by_cases hj : j < n.toNatClampNeg
      · rw [if_pos hj] at hx
        cases hx
        show F.heap[ab_n E + (h.length + (j + 1))]? = some (vp_cell (E.2.1 ti) (ab_a E z))
        rw [show ab_n E + (h.length + (j + 1)) = H.size + 1 + j by omega]
        exact hrow j hj
      · rw [if_neg hj] at hx
        cases hx
  obtain ⟨t, a1, b1⟩ := kk F.heap locs ls (hH.pushes hat (by rw [f1, List.length_cons, List.length_replicate]; omega) hold) hL hls F rfl X'
  refine ⟨t, step t ?_, b1⟩
  have e : T.heap.size = ab_ad E (h.length + 1) := by rw [hT, hs]; rfl
  rw [e]
  exact a1
theorem a_objInit (X : ab_X E l G m cc nL own ini ret fr lo mc ms Post) {i a : Nat} (hw : Cond.methodLink own i objectInit ∈ ab_tbl) (hw1 : Cond.instanceMethod objectInit ∈ ab_tbl) (hw2 : Cond.code objectInit ⟨#[0xb1]⟩ 1 none ∈ ab_tbl) (d : decode cc pc = .ok (.invokespecial i, 3)) (hfr : 1 ≤ fr) (hlo : (st.map fun v => v.category).sum + 12 ≤ lo) (kk : ab_R E G m nL ce sl (pc + 3) lv st h) : ab_R E G m nL ce sl pc lv (.ref a :: st) h := by
  obtain ⟨p, e, s, args, below, meth, c, R, Q, rfl, hQ, hx, hb, hml, hown, hts, hr, hlk, hK, r1, r2, r3, r4, hini⟩ := X
  intro H locs ls hH hL hls
  refine W.objInit hx hb hown (hts _ hw) (hts _ hw1) (hts _ hw2) rfl (by rw [hml]; exact hls.1) rfl d (by omega) ?_ (kk H locs ls hH hL hls)
  rw [ab_catS, r2]
  show 2 * 0 + _ + 12 ≤ lo
  omega
theorem a_iret {P : Option Value → List ab_C → Prop} (X : ab_X E l G m cc nL own ini (some .int) fr lo mc ms (some P)) {v : Int32} (d : decode cc pc = .ok (.ireturn, 1)) (hce : ce ≤ mc) (hsl : sl ≤ ms) (hq : P (some (.int v)) h) : ab_R E G m nL ce sl pc lv [.int v] h := by
  obtain ⟨p, e, s, args, below, meth, c, R, Q, rfl, hQ, hx, hb, hml, hown, hts, hr, hlk, hK, r1, r2, r3, r4, hini⟩ := X
  intro H locs ls hH hL hls
  obtain rfl := hQ P rfl
  exact W.widen hce hsl (W.iret hx hb hr (fun t ht _ => ⟨some (.int v), h, rfl, hq, ht ▸ hH⟩) hL d hlk)
theorem a_zret {P : Option Value → List ab_C → Prop} {ty : FieldType} (X : ab_X E l G m cc nL own ini (some ty) fr lo mc ms (some P)) {v : Int32} (hn : narrow ty (.int v) = .int v) (d : decode cc pc = .ok (.ireturn, 1)) (hce : ce ≤ mc) (hsl : sl ≤ ms) (hq : P (some (.int v)) h) : ab_R E G m nL ce sl pc lv [.int v] h := by
  obtain ⟨p, e, s, args, below, meth, c, R, Q, rfl, hQ, hx, hb, hml, hown, hts, hr, hlk, hK, r1, r2, r3, r4, hini⟩ := X
  intro H locs ls hH hL hls
  obtain rfl := hQ P rfl
  exact W.widen hce hsl (W.zret hx hb hr hn (fun t ht _ => ⟨some (.int v), h, rfl, hq, ht ▸ hH⟩) hL d hlk)
theorem a_lret {P : Option Value → List ab_C → Prop} (X : ab_X E l G m cc nL own ini (some .long) fr lo mc ms (some P)) {v : Int64} (d : decode cc pc = .ok (.lreturn, 1)) (hce : ce ≤ mc) (hsl : sl ≤ ms) (hq : P (some (.long v)) h) : ab_R E G m nL ce sl pc lv [.long v] h := by
  obtain ⟨p, e, s, args, below, meth, c, R, Q, rfl, hQ, hx, hb, hml, hown, hts, hr, hlk, hK, r1, r2, r3, r4, hini⟩ := X
  intro H locs ls hH hL hls
  obtain rfl := hQ P rfl
  exact W.widen hce hsl (W.lret hx hb hr (fun t ht _ => ⟨some (.long v), h, rfl, hq, ht ▸ hH⟩) hL d hlk)
theorem a_aret {P : Option Value → List ab_C → Prop} {rt : FieldType} (X : ab_X E l G m cc nL own ini (some rt) fr lo mc ms (some P)) {v : Nat} (hrt : (∃ n, rt = .object n) ∨ ∃ t, rt = .array t) (d : decode cc pc = .ok (.areturn, 1)) (hce : ce ≤ mc) (hsl : sl ≤ ms) (hq : P (some (.ref v)) h) : ab_R E G m nL ce sl pc lv [.ref v] h := by
  obtain ⟨p, e, s, args, below, meth, c, R, Q, rfl, hQ, hx, hb, hml, hown, hts, hr, hlk, hK, r1, r2, r3, r4, hini⟩ := X
  intro H locs ls hH hL hls
  obtain rfl := hQ P rfl
  exact W.widen hce hsl (W.aret hx hb hr hrt (Or.inr ⟨_, rfl⟩) (fun t ht _ => ⟨some (.ref v), h, rfl, hq, ht ▸ hH⟩) hL d hlk)
theorem a_vret {P : Option Value → List ab_C → Prop} (X : ab_X E l G m cc nL own ini none fr lo mc ms (some P)) (d : decode cc pc = .ok (.return_, 1)) (hce : ce ≤ mc) (hsl : sl ≤ ms) (hq : P none h) : ab_R E G m nL ce sl pc lv [] h := by
  obtain ⟨p, e, s, args, below, meth, c, R, Q, rfl, hQ, hx, hb, hml, hown, hts, hr, hlk, hK, r1, r2, r3, r4, hini⟩ := X
  intro H locs ls hH hL hls
  obtain rfl := hQ P rfl
  exact W.widen hce hsl (W.vret hx hb hr (fun t ht _ => ⟨none, h, rfl, hq, ht ▸ hH⟩) hL d hlk)
theorem ab_blind {E : ab_E} {av : List Value} {h : List ab_C} : FrameBlind (ab_P E av h) := fun _ _ _ _ q => ⟨q.1, q.2.1, q.2.2.same rfl⟩
theorem ab_ret {E : ab_E} (r : Option Value) (st : List Value) : (r.map (ab_v E)).toList ++ st.map (ab_v E) = (r.toList ++ st).map (ab_v E) := by cases r <;> rfl
theorem ab_gd {y : MethodName} {bytes : ByteArray} {maxL : Nat} {ret : Option FieldType} (hc : Cond.code y bytes maxL ret ∈ ab_tbl) : GoodIn ab_tbl (.code y bytes maxL ret :: ab_tbl) := fun w hw => by
  rcases List.mem_cons.mp hw with rfl | g
  · exact ab_good _ hc
  · exact ab_good w g
/-- what every call needs of the words: y's code, its class, its number of arguments -/
def ab_B (y : MethodName) (bytes : ByteArray) (maxL : Nat) (ret : Option FieldType) (n : Nat) : Prop := Cond.code y bytes maxL ret ∈ ab_tbl ∧ Cond.initialized y.cls ∈ ab_tbl ∧ (y.cls ≠ "java/lang/invoke/MethodHandle" ∧ y.cls ≠ "java/lang/invoke/VarHandle" ∧ (parseMethodDescriptor y.desc).map (fun d => d.parameters.length) = some n)
/-- behind a call -/
theorem ab_after {p : Program} {e : Env} {R : Room} {s : State} {args : Array Value} {below : List Frame} {meth : Method} {c : Code} {H : Heap} {locs : List Loc} {ls : Array Slot} {mc1 ms1 : Nat} {st0 : List Value} {a : Array Value} {Q : State → Prop} {P1 : Option Value → List ab_C → Prop}
    (hr : va_Run p l e R s m args below meth c H locs ce sl mc1 ms1 (F0 m pc ls st0) (st.map (ab_v E)) (ab_Q E P1 a) (fun q => ab_n E ≤ q)) (hL : ∀ q ∈ locs, ab_n E ≤ q.base)
    (kk : ∀ (r : Option Value) (h1 : List ab_C), P1 r h1 → ∀ (H1 : Heap) (locs1 : List Loc), ab_H E h1 H1 → (∀ q ∈ locs1, ab_n E ≤ q.base) → W p l e R s m args below meth c H1 locs1 (ce + mc1) (sl + ms1) Q (F0 m (pc + 3) ls ((r.toList ++ st).map (ab_v E)))) : W p l e R s m args below meth c H locs ce sl Q (F0 m pc ls st0) := by
  intro T hT X
  obtain ⟨v, st₀, t, T', L, h0, X', hLL, e1, e2, ⟨r, h1, hv, hp, hh⟩, stp⟩ := hr T hT X
  have hv := Outcome.returned.inj hv
  subst hv
  obtain ⟨t2, a1, b1⟩ := kk r h1 hp T'.heap (locs ++ L) (by rw [e1]; exact hh) (fun q hq => by
    rcases List.mem_append.mp hq with g | g
    · exact hL q g
    · exact hLL q g) T' rfl X'
  rw [← ab_ret] at a1
  exact ⟨t2, stp t2 a1, b1⟩
theorem a_callV (X : ab_X E l G m cc nL own ini ret fr lo mc ms Post) {idx maxL n f1 l1 mc1 ms1 : Nat} {y : MethodName} {bytes : ByteArray} {As stk : List Value} {P1 : Option Value → List ab_C → Prop} {r1t : Option FieldType} {a ci N : Nat} {T : u_T} {fs : List Value} (hrc : h[a]? = some (.inr (ci, fs))) (hcl : classes[ci]? = some (y.cls, T, N)) (hB : ab_B y bytes maxL r1t n) (hw : Cond.methodLink own idx y ∈ ab_tbl) (hw1 : Cond.instanceMethod y ∈ ab_tbl) (hw2 : Cond.selects y.cls y y ∈ ab_tbl) (hC : ab_Con E l y bytes maxL r1t f1 l1 (.ref (a + 1) :: As) h mc1 ms1 P1) (hn : As.length = n) (hstk : stk = As.reverse ++ .ref (a + 1) :: st) (h8 : (st.map fun v => v.category).sum ≤ 8) (hfr : f1 + 1 ≤ fr) (hlo : 19 + maxL + l1 ≤ lo) (hce : ce + mc1 ≤ mc) (hsl : sl + ms1 ≤ ms) (d : decode cc pc = .ok (.invokevirtual idx, 3)) (kk : ∀ (r : Option Value) (h1 : List ab_C), P1 r h1 → ab_R E G m nL (ce + mc1) (sl + ms1) (pc + 3) lv (r.toList ++ st) h1) : ab_R E G m nL ce sl pc lv stk h := by
  obtain ⟨p, e, s, args, below, meth, c, R, Q, rfl, hQ, hx, hb, hml, hown, hts, hr, hlk, hK, r1, r2, r3, r4, hini⟩ := X
  obtain ⟨b1, b2, b3⟩ := hB
  intro H locs ls hH hL hls
  have hR : f1 + 1 ≤ R.frames ∧ 8 + (maxL + 11) + l1 ≤ R.locals := by rw [r1, r2]; omega
  refine ab_after (st := st) (va_runV (Ts := ab_tbl) (own := own) (C := y.cls) (b := ab_n E + a) (As := As.map (ab_v E)) (rest := st.map (ab_v E)) ⟨hx, hb, hml, hown, hts⟩ hC ⟨callB_of (rm := { frames := f1, cells := mc1, slots := ms1, locals := l1 }) n hts (ab_gd b1) rfl rfl rfl (hts _ b2) (hts _ hw) b3 hR, hts _ hw1, hts _ hw2⟩ ⟨ab_blind, va_recv hK.va (ab_one hH hrc) (ci := ci) (q0 := 0) hcl rfl, fun U hU hW => ⟨rfl, by rw [hU]; exact hH, hK.moved hW⟩⟩ rfl (by rw [List.length_map]; exact hn) hls.1 (by rw [hstk]; simp [ab_v, ab_ad]) (by rw [ab_catS]; show 2 * 0 + _ ≤ 8; omega) d (by rw [r3, r4]; exact ⟨hce, hsl⟩)) hL (fun r h1 hp H1 locs1 hH1 hL1 => kk r h1 hp H1 locs1 ls hH1 hL1 hls)
theorem a_callS (X : ab_X E l G m cc nL own ini ret fr lo mc ms Post) {idx maxL n f1 l1 mc1 ms1 : Nat} {y : MethodName} {bytes : ByteArray} {As stk : List Value} {P1 : Option Value → List ab_C → Prop} {r1t : Option FieldType} (hB : ab_B y bytes maxL r1t n) (hw : Cond.methodLink own idx y ∈ ab_tbl) (hw1 : Cond.static y ∈ ab_tbl) (hC : ab_Con E l y bytes maxL r1t f1 l1 As h mc1 ms1 P1) (hn : As.length = n) (hstk : stk = As.reverse ++ st) (h8 : (st.map fun v => v.category).sum ≤ 8) (hfr : f1 + 1 ≤ fr) (hlo : 19 + maxL + l1 ≤ lo) (hce : ce + mc1 ≤ mc) (hsl : sl + ms1 ≤ ms) (d : decode cc pc = .ok (.invokestatic idx, 3)) (kk : ∀ (r : Option Value) (h1 : List ab_C), P1 r h1 → ab_R E G m nL (ce + mc1) (sl + ms1) (pc + 3) lv (r.toList ++ st) h1) : ab_R E G m nL ce sl pc lv stk h := by
  obtain ⟨p, e, s, args, below, meth, c, R, Q, rfl, hQ, hx, hb, hml, hown, hts, hr, hlk, hK, r1, r2, r3, r4, hini⟩ := X
  obtain ⟨b1, b2, b3⟩ := hB
  intro H locs ls hH hL hls
  have hR : f1 + 1 ≤ R.frames ∧ 8 + (maxL + 11) + l1 ≤ R.locals := by rw [r1, r2]; omega
  refine ab_after (st := st) (va_runS (Ts := ab_tbl) (own := own) (As := As.map (ab_v E)) (rest := st.map (ab_v E)) ⟨hx, hb, hml, hown, hts⟩ hC ⟨callB_of (rm := { frames := f1, cells := mc1, slots := ms1, locals := l1 }) n hts (ab_gd b1) rfl rfl rfl (hts _ b2) (hts _ hw) b3 hR, hts _ hw1⟩ ⟨ab_blind, fun U hU hW => ⟨rfl, by rw [hU]; exact hH, hK.moved hW⟩⟩ rfl (by rw [List.length_map]; exact hn) hls.1 (by rw [hstk]; simp [ab_v, ab_ad]) (by rw [ab_catS]; show 2 * 0 + _ ≤ 8; omega) d (by rw [r3, r4]; exact ⟨hce, hsl⟩)) hL (fun r h1 hp H1 locs1 hH1 hL1 => kk r h1 hp H1 locs1 ls hH1 hL1 hls)
theorem a_callI (X : ab_X E l G m cc nL own ini ret fr lo mc ms Post) {idx maxL n f1 l1 mc1 ms1 : Nat} {y : MethodName} {bytes : ByteArray} {As stk : List Value} {P1 : Option Value → List ab_C → Prop} {a : Nat} (hB : ab_B y bytes maxL none n) (hw : Cond.methodLink own idx y ∈ ab_tbl) (hw1 : Cond.instanceMethod y ∈ ab_tbl) (hy : y.name = "<init>") (hC : ab_Con E l y bytes maxL none f1 l1 (.ref (a + 1) :: As) h mc1 ms1 P1) (hn : As.length = n) (hstk : stk = As.reverse ++ .ref (a + 1) :: st) (h8 : (st.map fun v => v.category).sum ≤ 8) (hfr : f1 + 1 ≤ fr) (hlo : 19 + maxL + l1 ≤ lo) (hce : ce + mc1 ≤ mc) (hsl : sl + ms1 ≤ ms) (d : decode cc pc = .ok (.invokespecial idx, 3)) (kk : ∀ (r : Option Value) (h1 : List ab_C), P1 r h1 → ab_R E G m nL (ce + mc1) (sl + ms1) (pc + 3) lv (r.toList ++ st) h1) : ab_R E G m nL ce sl pc lv stk h := by
  obtain ⟨p, e, s, args, below, meth, c, R, Q, rfl, hQ, hx, hb, hml, hown, hts, hr, hlk, hK, r1, r2, r3, r4, hini⟩ := X
  obtain ⟨b1, b2, b3⟩ := hB
  intro H locs ls hH hL hls
  have hR : f1 + 1 ≤ R.frames ∧ 8 + (maxL + 11) + l1 ≤ R.locals := by rw [r1, r2]; omega
  refine ab_after (st := st) (va_runI (Ts := ab_tbl) (own := own) (b := ab_n E + a) (As := As.map (ab_v E)) (rest := st.map (ab_v E)) ⟨hx, hb, hml, hown, hts⟩ hC ⟨callB_of (rm := { frames := f1, cells := mc1, slots := ms1, locals := l1 }) n hts (ab_gd b1) rfl rfl rfl (hts _ b2) (hts _ hw) b3 hR, hy, hts _ hw1⟩ ⟨ab_blind, fun U hU hW => ⟨rfl, by rw [hU]; exact hH, hK.moved hW⟩⟩ rfl (by rw [List.length_map]; exact hn) hls.1 (by rw [hstk]; simp [ab_v, ab_ad]) (by rw [ab_catS]; show 2 * 0 + _ ≤ 8; omega) d (by rw [r3, r4]; exact ⟨hce, hsl⟩)) hL (fun r h1 hp H1 locs1 hH1 hL1 => kk r h1 hp H1 locs1 ls hH1 hL1 hls)
theorem a_callVN (X : ab_X E l G m cc nL own ini ret fr lo mc ms Post) {idx maxL n f1 l1 mc1 ms1 : Nat} {y : MethodName} {bytes : ByteArray} {As stk : List Value} {P1 : Option Value → List ab_C → Prop} {r1t : Option FieldType} {hst : String} {a ci N : Nat} {T : u_T} {fs : List Value} (hrc : h[a]? = some (.inr (ci, fs))) (hcl : classes[ci]? = some (y.cls, T, N)) (hB : ab_B y bytes maxL r1t n) (hw : (own, idx, y, hst) ∈ ab_nm) (hw1 : Cond.instanceMethod y ∈ ab_tbl) (hw2 : Cond.selects y.cls y y ∈ ab_tbl) (hC : ab_Con E l y bytes maxL r1t f1 l1 (.ref (a + 1) :: As) h mc1 ms1 P1) (hn : As.length = n) (hstk : stk = As.reverse ++ .ref (a + 1) :: st) (h8 : (st.map fun v => v.category).sum ≤ 8) (hfr : f1 + 1 ≤ fr) (hlo : 19 + maxL + l1 ≤ lo) (hce : ce + mc1 ≤ mc) (hsl : sl + ms1 ≤ ms) (d : decode cc pc = .ok (.invokevirtual idx, 3)) (kk : ∀ (r : Option Value) (h1 : List ab_C), P1 r h1 → ab_R E G m nL (ce + mc1) (sl + ms1) (pc + 3) lv (r.toList ++ st) h1) : ab_R E G m nL ce sl pc lv stk h := by
  obtain ⟨p, e, s, args, below, meth, c, R, Q, rfl, hQ, hx, hb, hml, hown, hts, hr, hlk, hK, r1, r2, r3, r4, hini⟩ := X
  obtain ⟨b1, b2, b3⟩ := hB
  intro H locs ls hH hL hls
  have hR : f1 + 1 ≤ R.frames ∧ 8 + (maxL + 11) + l1 ≤ R.locals := by rw [r1, r2]; omega
  refine ab_after (st := st) (va_runVN (Ts := ab_tbl) (own := own) (C := y.cls) (b := ab_n E + a) (As := As.map (ab_v E)) (rest := st.map (ab_v E)) ⟨hx, hb, hml, hown, hts⟩ hC ⟨va_cnB (rm := { frames := f1, cells := mc1, slots := ms1, locals := l1 }) n hts (ab_gd b1) rfl rfl rfl (hK.2.2.2.1 _ hw) (hts _ b2) b3 hR, hts _ hw1, hts _ hw2⟩ ⟨ab_blind, va_recv hK.va (ab_one hH hrc) (ci := ci) (q0 := 0) hcl rfl, fun U hU hW => ⟨rfl, by rw [hU]; exact hH, hK.moved hW⟩⟩ rfl (by rw [List.length_map]; exact hn) hls.1 (by rw [hstk]; simp [ab_v, ab_ad]) (by rw [ab_catS]; show 2 * 0 + _ ≤ 8; omega) d (by rw [r3, r4]; exact ⟨hce, hsl⟩)) hL (fun r h1 hp H1 locs1 hH1 hL1 => kk r h1 hp H1 locs1 ls hH1 hL1 hls)
theorem a_callSN (X : ab_X E l G m cc nL own ini ret fr lo mc ms Post) {idx maxL n f1 l1 mc1 ms1 : Nat} {y : MethodName} {bytes : ByteArray} {As stk : List Value} {P1 : Option Value → List ab_C → Prop} {r1t : Option FieldType} {hst : String} (hB : ab_B y bytes maxL r1t n) (hw : (own, idx, y, hst) ∈ ab_nm) (hw1 : Cond.static y ∈ ab_tbl) (hC : ab_Con E l y bytes maxL r1t f1 l1 As h mc1 ms1 P1) (hn : As.length = n) (hstk : stk = As.reverse ++ st) (h8 : (st.map fun v => v.category).sum ≤ 8) (hfr : f1 + 1 ≤ fr) (hlo : 19 + maxL + l1 ≤ lo) (hce : ce + mc1 ≤ mc) (hsl : sl + ms1 ≤ ms) (d : decode cc pc = .ok (.invokestatic idx, 3)) (kk : ∀ (r : Option Value) (h1 : List ab_C), P1 r h1 → ab_R E G m nL (ce + mc1) (sl + ms1) (pc + 3) lv (r.toList ++ st) h1) : ab_R E G m nL ce sl pc lv stk h := by
  obtain ⟨p, e, s, args, below, meth, c, R, Q, rfl, hQ, hx, hb, hml, hown, hts, hr, hlk, hK, r1, r2, r3, r4, hini⟩ := X
  obtain ⟨b1, b2, b3⟩ := hB
  intro H locs ls hH hL hls
  have hR : f1 + 1 ≤ R.frames ∧ 8 + (maxL + 11) + l1 ≤ R.locals := by rw [r1, r2]; omega
  refine ab_after (st := st) (va_runSN (Ts := ab_tbl) (own := own) (As := As.map (ab_v E)) (rest := st.map (ab_v E)) ⟨hx, hb, hml, hown, hts⟩ hC ⟨va_cnB (rm := { frames := f1, cells := mc1, slots := ms1, locals := l1 }) n hts (ab_gd b1) rfl rfl rfl (hK.2.2.2.1 _ hw) (hts _ b2) b3 hR, hts _ hw1, trivial⟩ ⟨ab_blind, fun U hU hW => ⟨rfl, by rw [hU]; exact hH, hK.moved hW⟩⟩ rfl (by rw [List.length_map]; exact hn) hls.1 (by rw [hstk]; simp [ab_v, ab_ad]) (by rw [ab_catS]; show 2 * 0 + _ ≤ 8; omega) d (by rw [r3, r4]; exact ⟨hce, hsl⟩)) hL (fun r h1 hp H1 locs1 hH1 hL1 => kk r h1 hp H1 locs1 ls hH1 hL1 hls)
theorem a_callIN (X : ab_X E l G m cc nL own ini ret fr lo mc ms Post) {idx maxL n f1 l1 mc1 ms1 : Nat} {y : MethodName} {bytes : ByteArray} {As stk : List Value} {P1 : Option Value → List ab_C → Prop} {hst : String} {a : Nat} (hB : ab_B y bytes maxL none n) (hw : (own, idx, y, hst) ∈ ab_nm) (hw1 : Cond.instanceMethod y ∈ ab_tbl) (hy : y.name = "<init>") (hC : ab_Con E l y bytes maxL none f1 l1 (.ref (a + 1) :: As) h mc1 ms1 P1) (hn : As.length = n) (hstk : stk = As.reverse ++ .ref (a + 1) :: st) (h8 : (st.map fun v => v.category).sum ≤ 8) (hfr : f1 + 1 ≤ fr) (hlo : 19 + maxL + l1 ≤ lo) (hce : ce + mc1 ≤ mc) (hsl : sl + ms1 ≤ ms) (d : decode cc pc = .ok (.invokespecial idx, 3)) (kk : ∀ (r : Option Value) (h1 : List ab_C), P1 r h1 → ab_R E G m nL (ce + mc1) (sl + ms1) (pc + 3) lv (r.toList ++ st) h1) : ab_R E G m nL ce sl pc lv stk h := by
  obtain ⟨p, e, s, args, below, meth, c, R, Q, rfl, hQ, hx, hb, hml, hown, hts, hr, hlk, hK, r1, r2, r3, r4, hini⟩ := X
  obtain ⟨b1, b2, b3⟩ := hB
  intro H locs ls hH hL hls
  have hR : f1 + 1 ≤ R.frames ∧ 8 + (maxL + 11) + l1 ≤ R.locals := by rw [r1, r2]; omega
  refine ab_after (st := st) (va_runIN (Ts := ab_tbl) (own := own) (b := ab_n E + a) (As := As.map (ab_v E)) (rest := st.map (ab_v E)) ⟨hx, hb, hml, hown, hts⟩ hC ⟨va_cnB (rm := { frames := f1, cells := mc1, slots := ms1, locals := l1 }) n hts (ab_gd b1) rfl rfl rfl (hK.2.2.2.1 _ hw) (hts _ b2) b3 hR, hy, hts _ hw1⟩ ⟨ab_blind, fun U hU hW => ⟨rfl, by rw [hU]; exact hH, hK.moved hW⟩⟩ rfl (by rw [List.length_map]; exact hn) hls.1 (by rw [hstk]; simp [ab_v, ab_ad]) (by rw [ab_catS]; show 2 * 0 + _ ≤ 8; omega) d (by rw [r3, r4]; exact ⟨hce, hsl⟩)) hL (fun r h1 hp H1 locs1 hH1 hL1 => kk r h1 hp H1 locs1 ls hH1 hL1 hls)
/-- a contract out of a walk from the method's entry -/
theorem ab_con {y : MethodName} {av : List Value} {P : Option Value → List ab_C → Prop} (hy : plainName y.cls = true) (hini : ini = true → y.name = "<init>") (ho : y.cls = own) (hlen : (lg_sl av).length ≤ nL)
    (body : ∀ (G : Heap → List Loc → Nat → Nat → JFrame → Prop) (m : MethodId), ab_X E l G m cc nL own ini ret fr lo mc ms (some P) → ab_R E G m nL 0 0 0 (lv_args 0 av) [] h) : ab_Con E l y cc nL ret fr lo av h mc ms P := by
  refine Met.ofW (cc := cc) (maxL := nL) (ret := ret) hy rfl ?_
  intro p e s m args below meth c s₁ B hml hv
  obtain ⟨rfl, hH, hK⟩ := hv
  have hts : ∀ w ∈ (Cond.code y cc nL ret :: ab_tbl), w.before (av.map (ab_v E)).toArray s = true := atoms_spec (ws := Cond.code y cc nL ret :: ab_tbl) B.pre
  have hown : s.vm.findClass own = some m.cls := by rw [← ho]; exact findClass_of_methodNamed B.named
  have hX : ab_X E l _ m cc nL own ini ret fr lo mc ms (some P) := ⟨p, e, s, _, below, meth, c, { frames := fr, cells := mc, slots := ms, locals := lo }, _, rfl, fun _ hP => by cases hP; rfl, B.exec, B.bytes, hml, hown, fun w hw => hts w (List.mem_cons_of_mem _ hw), B.returns, B.notSynchronized, hK, rfl, rfl, rfl, rfl, fun hi => ((name_of_methodNamed B.named B.method).1).trans (hini hi)⟩
  have hR := body _ m hX
  have hl := lv_entry (av.map (ab_v E)) (n := nL) (by rw [ab_slL]; exact hlen)
  rw [lg_entry_eq]
  rw [ab_args] at hl
  exact hR s.heap [] _ hH (fun q hq => by cases hq) hl
end ABR
end
section
/-! links: by program out of the Statement: fields, calls, constants under the numbers that the code names them by -/
def ab_CL (ci : Nat) (C : String) (T : u_T) (N : Nat) (ty0 : Nat → FieldType) : Prop := classes[ci]? = some (C, T, N) ∧ (∀ w ∈ u_ws C T N, w ∈ ab_tbl) ∧ (∀ j, j < N → parseFieldDescriptor (T j).2.2.1 = some (ty0 j)) ∧ (∀ a, a < N → ∀ b, b < N → a ≠ b → (T a).2.1 ≠ (T b).2.1)
theorem ab_F_mk {own C : String} {idx ci k N : Nat} {T : u_T} {ty0 : Nat → FieldType} {fin : Bool} {ty : FieldType} (h : ab_CL ci C T N ty0) (hk : k < N) (hl : Cond.fieldLink own idx (T k).1 (T k).2.1 (T k).2.2.1 ∈ ab_tbl) (hf : (T k).2.2.2 = fin) (ht : parseFieldDescriptor (T k).2.2.1 = some ty) : ab_F own idx ci k fin ty := ⟨C, T, N, ty0, h.1, hk, h.2.1, hl, hf, ht, h.2.2.1, h.2.2.2⟩
theorem cl_H : ab_CL 0 "HiddenRows" F_H 8 t_H := ⟨rfl, List.forall_mem_cons.mpr ⟨(ab_mem (List.mem_append_right _ (List.mem_of_getElem? (i := 270) rfl)) rfl), List.forall_mem_cons.mpr ⟨(ab_mem (List.mem_append_right _ (List.mem_of_getElem? (i := 272) rfl)) rfl), List.forall_mem_cons.mpr ⟨(ab_mem (List.mem_append_right _ (List.mem_of_getElem? (i := 274) rfl)) rfl), List.forall_mem_cons.mpr ⟨(ab_mem (List.mem_append_right _ (List.mem_of_getElem? (i := 276) rfl)) rfl), List.forall_mem_cons.mpr ⟨(ab_mem (List.mem_append_right _ (List.mem_of_getElem? (i := 278) rfl)) rfl), List.forall_mem_cons.mpr ⟨(ab_mem (List.mem_append_right _ (List.mem_of_getElem? (i := 280) rfl)) rfl), List.forall_mem_cons.mpr ⟨(ab_mem (List.mem_append_right _ (List.mem_of_getElem? (i := 282) rfl)) rfl), List.forall_mem_cons.mpr ⟨(ab_mem (List.mem_append_right _ (List.mem_of_getElem? (i := 284) rfl)) rfl), fun _ h => absurd h List.not_mem_nil⟩⟩⟩⟩⟩⟩⟩⟩, by decide +kernel, by decide +kernel⟩
theorem cl_Ro : ab_CL 1 "HiddenRows$Row" F_Ro 3 t_Ro := ⟨rfl, List.forall_mem_cons.mpr ⟨(ab_mem (List.mem_append_right _ (List.mem_of_getElem? (i := 38) rfl)) rfl), List.forall_mem_cons.mpr ⟨(ab_mem (List.mem_append_right _ (List.mem_of_getElem? (i := 40) rfl)) rfl), List.forall_mem_cons.mpr ⟨(ab_mem (List.mem_append_right _ (List.mem_of_getElem? (i := 42) rfl)) rfl), fun _ h => absurd h List.not_mem_nil⟩⟩⟩, by decide +kernel, by decide +kernel⟩
theorem cl_St : ab_CL 2 "HiddenRows$States" F_St 3 t_St := ⟨rfl, List.forall_mem_cons.mpr ⟨(ab_mem (List.mem_append_right _ (List.mem_of_getElem? (i := 69) rfl)) rfl), List.forall_mem_cons.mpr ⟨(ab_mem (List.mem_append_right _ (List.mem_of_getElem? (i := 71) rfl)) rfl), List.forall_mem_cons.mpr ⟨(ab_mem (List.mem_append_right _ (List.mem_of_getElem? (i := 73) rfl)) rfl), fun _ h => absurd h List.not_mem_nil⟩⟩⟩, by decide +kernel, by decide +kernel⟩
theorem cl_Ws : ab_CL 3 "HiddenRows$WaySums" F_Ws 9 t_Ws := ⟨rfl, List.forall_mem_cons.mpr ⟨(ab_mem (List.mem_append_right _ (List.mem_of_getElem? (i := 96) rfl)) rfl), List.forall_mem_cons.mpr ⟨(ab_mem (List.mem_append_right _ (List.mem_of_getElem? (i := 98) rfl)) rfl), List.forall_mem_cons.mpr ⟨(ab_mem (List.mem_append_right _ (List.mem_of_getElem? (i := 100) rfl)) rfl), List.forall_mem_cons.mpr ⟨(ab_mem (List.mem_append_right _ (List.mem_of_getElem? (i := 102) rfl)) rfl), List.forall_mem_cons.mpr ⟨(ab_mem (List.mem_append_right _ (List.mem_of_getElem? (i := 104) rfl)) rfl), List.forall_mem_cons.mpr ⟨(ab_mem (List.mem_append_right _ (List.mem_of_getElem? (i := 106) rfl)) rfl), List.forall_mem_cons.mpr ⟨(ab_mem (List.mem_append_right _ (List.mem_of_getElem? (i := 108) rfl)) rfl), List.forall_mem_cons.mpr ⟨(ab_mem (List.mem_append_right _ (List.mem_of_getElem? (i := 110) rfl)) rfl), List.forall_mem_cons.mpr ⟨(ab_mem (List.mem_append_right _ (List.mem_of_getElem? (i := 112) rfl)) rfl), fun _ h => absurd h List.not_mem_nil⟩⟩⟩⟩⟩⟩⟩⟩⟩, by decide +kernel, by decide +kernel⟩
theorem cl_Bw : ab_CL 4 "HiddenRows$BestWays" F_Bw 6 t_Bw := ⟨rfl, List.forall_mem_cons.mpr ⟨(ab_mem (List.mem_append_right _ (List.mem_of_getElem? (i := 152) rfl)) rfl), List.forall_mem_cons.mpr ⟨(ab_mem (List.mem_append_right _ (List.mem_of_getElem? (i := 154) rfl)) rfl), List.forall_mem_cons.mpr ⟨(ab_mem (List.mem_append_right _ (List.mem_of_getElem? (i := 156) rfl)) rfl), List.forall_mem_cons.mpr ⟨(ab_mem (List.mem_append_right _ (List.mem_of_getElem? (i := 158) rfl)) rfl), List.forall_mem_cons.mpr ⟨(ab_mem (List.mem_append_right _ (List.mem_of_getElem? (i := 160) rfl)) rfl), List.forall_mem_cons.mpr ⟨(ab_mem (List.mem_append_right _ (List.mem_of_getElem? (i := 162) rfl)) rfl), fun _ h => absurd h List.not_mem_nil⟩⟩⟩⟩⟩⟩, by decide +kernel, by decide +kernel⟩
theorem cl_Wl : ab_CL 5 "HiddenRows$WayList" F_Wl 3 t_Wl := ⟨rfl, List.forall_mem_cons.mpr ⟨(ab_mem (List.mem_append_right _ (List.mem_of_getElem? (i := 138) rfl)) rfl), List.forall_mem_cons.mpr ⟨(ab_mem (List.mem_append_right _ (List.mem_of_getElem? (i := 140) rfl)) rfl), List.forall_mem_cons.mpr ⟨(ab_mem (List.mem_append_right _ (List.mem_of_getElem? (i := 142) rfl)) rfl), fun _ h => absurd h List.not_mem_nil⟩⟩⟩, by decide +kernel, by decide +kernel⟩
theorem cl_Dr : ab_CL 6 "HiddenRows$Drawing" F_Dr 9 t_Dr := ⟨rfl, List.forall_mem_cons.mpr ⟨(ab_mem (List.mem_append_right _ (List.mem_of_getElem? (i := 182) rfl)) rfl), List.forall_mem_cons.mpr ⟨(ab_mem (List.mem_append_right _ (List.mem_of_getElem? (i := 184) rfl)) rfl), List.forall_mem_cons.mpr ⟨(ab_mem (List.mem_append_right _ (List.mem_of_getElem? (i := 186) rfl)) rfl), List.forall_mem_cons.mpr ⟨(ab_mem (List.mem_append_right _ (List.mem_of_getElem? (i := 188) rfl)) rfl), List.forall_mem_cons.mpr ⟨(ab_mem (List.mem_append_right _ (List.mem_of_getElem? (i := 190) rfl)) rfl), List.forall_mem_cons.mpr ⟨(ab_mem (List.mem_append_right _ (List.mem_of_getElem? (i := 192) rfl)) rfl), List.forall_mem_cons.mpr ⟨(ab_mem (List.mem_append_right _ (List.mem_of_getElem? (i := 194) rfl)) rfl), List.forall_mem_cons.mpr ⟨(ab_mem (List.mem_append_right _ (List.mem_of_getElem? (i := 196) rfl)) rfl), List.forall_mem_cons.mpr ⟨(ab_mem (List.mem_append_right _ (List.mem_of_getElem? (i := 198) rfl)) rfl), fun _ h => absurd h List.not_mem_nil⟩⟩⟩⟩⟩⟩⟩⟩⟩, by decide +kernel, by decide +kernel⟩
theorem cl_Ki : ab_CL 7 "HiddenRows$Kinds" F_Ki 3 t_Ki := ⟨rfl, List.forall_mem_cons.mpr ⟨(ab_mem (List.mem_append_right _ (List.mem_of_getElem? (i := 216) rfl)) rfl), List.forall_mem_cons.mpr ⟨(ab_mem (List.mem_append_right _ (List.mem_of_getElem? (i := 218) rfl)) rfl), List.forall_mem_cons.mpr ⟨(ab_mem (List.mem_append_right _ (List.mem_of_getElem? (i := 220) rfl)) rfl), fun _ h => absurd h List.not_mem_nil⟩⟩⟩, by decide +kernel, by decide +kernel⟩
theorem cl_Tt : ab_CL 8 "HiddenRows$TreeTables" F_Tt 10 t_Tt := ⟨rfl, List.forall_mem_cons.mpr ⟨(ab_mem (List.mem_append_right _ (List.mem_of_getElem? (i := 241) rfl)) rfl), List.forall_mem_cons.mpr ⟨(ab_mem (List.mem_append_right _ (List.mem_of_getElem? (i := 243) rfl)) rfl), List.forall_mem_cons.mpr ⟨(ab_mem (List.mem_append_right _ (List.mem_of_getElem? (i := 245) rfl)) rfl), List.forall_mem_cons.mpr ⟨(ab_mem (List.mem_append_right _ (List.mem_of_getElem? (i := 247) rfl)) rfl), List.forall_mem_cons.mpr ⟨(ab_mem (List.mem_append_right _ (List.mem_of_getElem? (i := 249) rfl)) rfl), List.forall_mem_cons.mpr ⟨(ab_mem (List.mem_append_right _ (List.mem_of_getElem? (i := 251) rfl)) rfl), List.forall_mem_cons.mpr ⟨(ab_mem (List.mem_append_right _ (List.mem_of_getElem? (i := 253) rfl)) rfl), List.forall_mem_cons.mpr ⟨(ab_mem (List.mem_append_right _ (List.mem_of_getElem? (i := 255) rfl)) rfl), List.forall_mem_cons.mpr ⟨(ab_mem (List.mem_append_right _ (List.mem_of_getElem? (i := 257) rfl)) rfl), List.forall_mem_cons.mpr ⟨(ab_mem (List.mem_append_right _ (List.mem_of_getElem? (i := 259) rfl)) rfl), fun _ h => absurd h List.not_mem_nil⟩⟩⟩⟩⟩⟩⟩⟩⟩⟩, by decide +kernel, by decide +kernel⟩
set_option maxRecDepth 20000 in
theorem cl_Mo : ab_CL 9 "HiddenRowsModel" F_Mo 27 t_Mo := ⟨rfl, List.forall_mem_cons.mpr ⟨(ab_mem (List.mem_append_right _ (List.mem_of_getElem? (i := 664) rfl)) rfl), List.forall_mem_cons.mpr ⟨(ab_mem (List.mem_append_right _ (List.mem_of_getElem? (i := 666) rfl)) rfl), List.forall_mem_cons.mpr ⟨(ab_mem (List.mem_append_right _ (List.mem_of_getElem? (i := 668) rfl)) rfl), List.forall_mem_cons.mpr ⟨(ab_mem (List.mem_append_right _ (List.mem_of_getElem? (i := 670) rfl)) rfl), List.forall_mem_cons.mpr ⟨(ab_mem (List.mem_append_right _ (List.mem_of_getElem? (i := 672) rfl)) rfl), List.forall_mem_cons.mpr ⟨(ab_mem (List.mem_append_right _ (List.mem_of_getElem? (i := 674) rfl)) rfl), List.forall_mem_cons.mpr ⟨(ab_mem (List.mem_append_right _ (List.mem_of_getElem? (i := 676) rfl)) rfl), List.forall_mem_cons.mpr ⟨(ab_mem (List.mem_append_right _ (List.mem_of_getElem? (i := 678) rfl)) rfl), List.forall_mem_cons.mpr ⟨(ab_mem (List.mem_append_right _ (List.mem_of_getElem? (i := 680) rfl)) rfl), List.forall_mem_cons.mpr ⟨(ab_mem (List.mem_append_right _ (List.mem_of_getElem? (i := 682) rfl)) rfl), List.forall_mem_cons.mpr ⟨(ab_mem (List.mem_append_right _ (List.mem_of_getElem? (i := 684) rfl)) rfl), List.forall_mem_cons.mpr ⟨(ab_mem (List.mem_append_right _ (List.mem_of_getElem? (i := 686) rfl)) rfl), List.forall_mem_cons.mpr ⟨(ab_mem (List.mem_append_right _ (List.mem_of_getElem? (i := 688) rfl)) rfl), List.forall_mem_cons.mpr ⟨(ab_mem (List.mem_append_right _ (List.mem_of_getElem? (i := 690) rfl)) rfl), List.forall_mem_cons.mpr ⟨(ab_mem (List.mem_append_right _ (List.mem_of_getElem? (i := 692) rfl)) rfl), List.forall_mem_cons.mpr ⟨(ab_mem (List.mem_append_right _ (List.mem_of_getElem? (i := 694) rfl)) rfl), List.forall_mem_cons.mpr ⟨(ab_mem (List.mem_append_right _ (List.mem_of_getElem? (i := 696) rfl)) rfl), List.forall_mem_cons.mpr ⟨(ab_mem (List.mem_append_right _ (List.mem_of_getElem? (i := 698) rfl)) rfl), List.forall_mem_cons.mpr ⟨(ab_mem (List.mem_append_right _ (List.mem_of_getElem? (i := 700) rfl)) rfl), List.forall_mem_cons.mpr ⟨(ab_mem (List.mem_append_right _ (List.mem_of_getElem? (i := 702) rfl)) rfl), List.forall_mem_cons.mpr ⟨(ab_mem (List.mem_append_right _ (List.mem_of_getElem? (i := 704) rfl)) rfl), List.forall_mem_cons.mpr ⟨(ab_mem (List.mem_append_right _ (List.mem_of_getElem? (i := 706) rfl)) rfl), List.forall_mem_cons.mpr ⟨(ab_mem (List.mem_append_right _ (List.mem_of_getElem? (i := 708) rfl)) rfl), List.forall_mem_cons.mpr ⟨(ab_mem (List.mem_append_right _ (List.mem_of_getElem? (i := 710) rfl)) rfl), List.forall_mem_cons.mpr ⟨(ab_mem (List.mem_append_right _ (List.mem_of_getElem? (i := 712) rfl)) rfl), List.forall_mem_cons.mpr ⟨(ab_mem (List.mem_append_right _ (List.mem_of_getElem? (i := 714) rfl)) rfl), List.forall_mem_cons.mpr ⟨(ab_mem (List.mem_append_right _ (List.mem_of_getElem? (i := 716) rfl)) rfl), fun _ h => absurd h List.not_mem_nil⟩⟩⟩⟩⟩⟩⟩⟩⟩⟩⟩⟩⟩⟩⟩⟩⟩⟩⟩⟩⟩⟩⟩⟩⟩⟩⟩, by decide +kernel, by decide +kernel⟩
theorem cc_H_9 : Cond.classLink "HiddenRows" 9 "HiddenRows$Row" ∈ ab_tbl := (ab_mem (List.mem_append_right _ (List.mem_of_getElem? (i := 20) rfl)) rfl)
theorem cc_H_16 : Cond.classLink "HiddenRows" 16 "HiddenRows$States" ∈ ab_tbl := (ab_mem (List.mem_append_right _ (List.mem_of_getElem? (i := 46) rfl)) rfl)
theorem cc_H_23 : Cond.classLink "HiddenRows" 23 "HiddenRows$WaySums" ∈ ab_tbl := (ab_mem (List.mem_append_right _ (List.mem_of_getElem? (i := 76) rfl)) rfl)
theorem cc_H_38 : Cond.classLink "HiddenRows" 38 "HiddenRows$BestWays" ∈ ab_tbl := (ab_mem (List.mem_append_right _ (List.mem_of_getElem? (i := 116) rfl)) rfl)
theorem cc_H_47 : Cond.classLink "HiddenRows" 47 "HiddenRows$Drawing" ∈ ab_tbl := (ab_mem (List.mem_append_right _ (List.mem_of_getElem? (i := 165) rfl)) rfl)
theorem cc_H_54 : Cond.classLink "HiddenRows" 54 "HiddenRows$Kinds" ∈ ab_tbl := (ab_mem (List.mem_append_right _ (List.mem_of_getElem? (i := 201) rfl)) rfl)
theorem cc_H_61 : Cond.classLink "HiddenRows" 61 "HiddenRows$TreeTables" ∈ ab_tbl := (ab_mem (List.mem_append_right _ (List.mem_of_getElem? (i := 223) rfl)) rfl)
theorem cc_Bw_9 : Cond.classLink "HiddenRows$BestWays" 9 "HiddenRows$WayList" ∈ ab_tbl := (ab_mem (List.mem_append_right _ (List.mem_of_getElem? (i := 122) rfl)) rfl)
theorem cc_Ki_9 : Cond.classLink "HiddenRows$Kinds" 9 "[[I" ∈ ab_tbl := (ab_mem (List.mem_append_right _ (List.mem_of_getElem? (i := 207) rfl)) rfl)
theorem cc_St_9 : Cond.classLink "HiddenRows$States" 9 "[[I" ∈ ab_tbl := (ab_mem (List.mem_append_right _ (List.mem_of_getElem? (i := 52) rfl)) rfl)
theorem cc_Tt_11 : Cond.classLink "HiddenRows$TreeTables" 11 "[[J" ∈ ab_tbl := (ab_mem (List.mem_append_right _ (List.mem_of_getElem? (i := 229) rfl)) rfl)
theorem cc_Ws_9 : Cond.classLink "HiddenRows$WaySums" 9 "[[J" ∈ ab_tbl := (ab_mem (List.mem_append_right _ (List.mem_of_getElem? (i := 83) rfl)) rfl)
theorem cc_La_7 : Cond.classLink "HiddenRowsLaw" 7 "HiddenRows" ∈ ab_tbl := (ab_mem (List.mem_append_right _ (List.mem_of_getElem? (i := 12) rfl)) rfl)
set_option maxRecDepth 20000 in
theorem cc_La_10 : Cond.classLink "HiddenRowsLaw" 10 "HiddenRowsModel" ∈ ab_tbl := (ab_mem (List.mem_append_right _ (List.mem_of_getElem? (i := 631) rfl)) rfl)
theorem ff_H_12 : ab_F "HiddenRows" 12 0 0 true (.object "HiddenRows$Row") := ab_F_mk cl_H (by decide) (ab_mem (List.mem_append_right _ (List.mem_of_getElem? (i := 262) rfl)) rfl) rfl (by decide +kernel)
theorem ff_H_19 : ab_F "HiddenRows" 19 0 1 true (.object "HiddenRows$States") := ab_F_mk cl_H (by decide) (ab_mem (List.mem_append_right _ (List.mem_of_getElem? (i := 263) rfl)) rfl) rfl (by decide +kernel)
theorem ff_H_31 : ab_F "HiddenRows" 31 0 2 true (.object "HiddenRows$WaySums") := ab_F_mk cl_H (by decide) (ab_mem (List.mem_append_right _ (List.mem_of_getElem? (i := 264) rfl)) rfl) rfl (by decide +kernel)
theorem ff_H_35 : ab_F "HiddenRows" 35 0 3 true (.object "HiddenRows$WaySums") := ab_F_mk cl_H (by decide) (ab_mem (List.mem_append_right _ (List.mem_of_getElem? (i := 265) rfl)) rfl) rfl (by decide +kernel)
theorem ff_H_43 : ab_F "HiddenRows" 43 0 4 true (.object "HiddenRows$BestWays") := ab_F_mk cl_H (by decide) (ab_mem (List.mem_append_right _ (List.mem_of_getElem? (i := 266) rfl)) rfl) rfl (by decide +kernel)
theorem ff_H_50 : ab_F "HiddenRows" 50 0 5 true (.object "HiddenRows$Drawing") := ab_F_mk cl_H (by decide) (ab_mem (List.mem_append_right _ (List.mem_of_getElem? (i := 267) rfl)) rfl) rfl (by decide +kernel)
theorem ff_H_57 : ab_F "HiddenRows" 57 0 6 true (.object "HiddenRows$Kinds") := ab_F_mk cl_H (by decide) (ab_mem (List.mem_append_right _ (List.mem_of_getElem? (i := 268) rfl)) rfl) rfl (by decide +kernel)
theorem ff_H_66 : ab_F "HiddenRows" 66 0 7 true (.object "HiddenRows$TreeTables") := ab_F_mk cl_H (by decide) (ab_mem (List.mem_append_right _ (List.mem_of_getElem? (i := 269) rfl)) rfl) rfl (by decide +kernel)
theorem ff_H_70 : ab_F "HiddenRows" 70 2 2 false .int := ab_F_mk cl_St (by decide) (ab_mem (List.mem_append_right _ (List.mem_of_getElem? (i := 65) rfl)) rfl) rfl (by decide +kernel)
theorem ff_H_88 : ab_F "HiddenRows" 88 2 0 true (.array (.array .int)) := ab_F_mk cl_St (by decide) (ab_mem (List.mem_append_right _ (List.mem_of_getElem? (i := 56) rfl)) rfl) rfl (by decide +kernel)
theorem ff_H_92 : ab_F "HiddenRows" 92 2 1 true (.array (.array .int)) := ab_F_mk cl_St (by decide) (ab_mem (List.mem_append_right _ (List.mem_of_getElem? (i := 60) rfl)) rfl) rfl (by decide +kernel)
theorem ff_H_95 : ab_F "HiddenRows" 95 7 2 false .int := ab_F_mk cl_Ki (by decide) (ab_mem (List.mem_append_right _ (List.mem_of_getElem? (i := 214) rfl)) rfl) rfl (by decide +kernel)
theorem ff_H_104 : ab_F "HiddenRows" 104 7 0 true (.array (.array .int)) := ab_F_mk cl_Ki (by decide) (ab_mem (List.mem_append_right _ (List.mem_of_getElem? (i := 209) rfl)) rfl) rfl (by decide +kernel)
theorem ff_H_107 : ab_F "HiddenRows" 107 7 1 true (.array (.array .int)) := ab_F_mk cl_Ki (by decide) (ab_mem (List.mem_append_right _ (List.mem_of_getElem? (i := 212) rfl)) rfl) rfl (by decide +kernel)
theorem ff_H_110 : ab_F "HiddenRows" 110 1 2 false .int := ab_F_mk cl_Ro (by decide) (ab_mem (List.mem_append_right _ (List.mem_of_getElem? (i := 37) rfl)) rfl) rfl (by decide +kernel)
theorem ff_H_118 : ab_F "HiddenRows" 118 1 1 true (.array .int) := ab_F_mk cl_Ro (by decide) (ab_mem (List.mem_append_right _ (List.mem_of_getElem? (i := 31) rfl)) rfl) rfl (by decide +kernel)
theorem ff_H_152 : ab_F "HiddenRows" 152 5 2 false .int := ab_F_mk cl_Wl (by decide) (ab_mem (List.mem_append_right _ (List.mem_of_getElem? (i := 137) rfl)) rfl) rfl (by decide +kernel)
theorem ff_H_157 : ab_F "HiddenRows" 157 5 0 true (.array .long) := ab_F_mk cl_Wl (by decide) (ab_mem (List.mem_append_right _ (List.mem_of_getElem? (i := 131) rfl)) rfl) rfl (by decide +kernel)
theorem ff_H_162 : ab_F "HiddenRows" 162 5 1 true (.array .int) := ab_F_mk cl_Wl (by decide) (ab_mem (List.mem_append_right _ (List.mem_of_getElem? (i := 134) rfl)) rfl) rfl (by decide +kernel)
theorem ff_H_176 : ab_F "HiddenRows" 176 6 8 false .boolean := ab_F_mk cl_Dr (by decide) (ab_mem (List.mem_append_right _ (List.mem_of_getElem? (i := 181) rfl)) rfl) rfl (by decide +kernel)
theorem ff_H_180 : ab_F "HiddenRows" 180 6 7 false .int := ab_F_mk cl_Dr (by decide) (ab_mem (List.mem_append_right _ (List.mem_of_getElem? (i := 179) rfl)) rfl) rfl (by decide +kernel)
theorem ff_H_198 : ab_F "HiddenRows" 198 3 8 false .boolean := ab_F_mk cl_Ws (by decide) (ab_mem (List.mem_append_right _ (List.mem_of_getElem? (i := 95) rfl)) rfl) rfl (by decide +kernel)
theorem ff_H_199 : ab_F "HiddenRows" 199 4 5 false .boolean := ab_F_mk cl_Bw (by decide) (ab_mem (List.mem_append_right _ (List.mem_of_getElem? (i := 151) rfl)) rfl) rfl (by decide +kernel)
theorem ff_H_200 : ab_F "HiddenRows" 200 8 9 false .boolean := ab_F_mk cl_Tt (by decide) (ab_mem (List.mem_append_right _ (List.mem_of_getElem? (i := 240) rfl)) rfl) rfl (by decide +kernel)
theorem ff_Bw_11 : ab_F "HiddenRows$BestWays" 11 4 3 true (.array (.object "HiddenRows$WayList")) := ab_F_mk cl_Bw (by decide) (ab_mem (List.mem_append_right _ (List.mem_of_getElem? (i := 148) rfl)) rfl) rfl (by decide +kernel)
theorem ff_Bw_18 : ab_F "HiddenRows$BestWays" 18 4 4 true (.object "HiddenRows$WayList") := ab_F_mk cl_Bw (by decide) (ab_mem (List.mem_append_right _ (List.mem_of_getElem? (i := 149) rfl)) rfl) rfl (by decide +kernel)
theorem ff_Bw_22 : ab_F "HiddenRows$BestWays" 22 4 5 false .boolean := ab_F_mk cl_Bw (by decide) (ab_mem (List.mem_append_right _ (List.mem_of_getElem? (i := 150) rfl)) rfl) rfl (by decide +kernel)
theorem ff_Bw_26 : ab_F "HiddenRows$BestWays" 26 4 0 true (.object "HiddenRows$Row") := ab_F_mk cl_Bw (by decide) (ab_mem (List.mem_append_right _ (List.mem_of_getElem? (i := 145) rfl)) rfl) rfl (by decide +kernel)
theorem ff_Bw_30 : ab_F "HiddenRows$BestWays" 30 4 1 true (.object "HiddenRows$States") := ab_F_mk cl_Bw (by decide) (ab_mem (List.mem_append_right _ (List.mem_of_getElem? (i := 146) rfl)) rfl) rfl (by decide +kernel)
theorem ff_Bw_34 : ab_F "HiddenRows$BestWays" 34 4 2 true (.object "HiddenRows$WaySums") := ab_F_mk cl_Bw (by decide) (ab_mem (List.mem_append_right _ (List.mem_of_getElem? (i := 147) rfl)) rfl) rfl (by decide +kernel)
theorem ff_Bw_43 : ab_F "HiddenRows$BestWays" 43 1 2 false .int := ab_F_mk cl_Ro (by decide) (ab_mem (List.mem_append_right _ (List.mem_of_getElem? (i := 35) rfl)) rfl) rfl (by decide +kernel)
theorem ff_Bw_49 : ab_F "HiddenRows$BestWays" 49 2 2 false .int := ab_F_mk cl_St (by decide) (ab_mem (List.mem_append_right _ (List.mem_of_getElem? (i := 67) rfl)) rfl) rfl (by decide +kernel)
theorem ff_Bw_61 : ab_F "HiddenRows$BestWays" 61 5 2 false .int := ab_F_mk cl_Wl (by decide) (ab_mem (List.mem_append_right _ (List.mem_of_getElem? (i := 136) rfl)) rfl) rfl (by decide +kernel)
theorem ff_Bw_64 : ab_F "HiddenRows$BestWays" 64 2 0 true (.array (.array .int)) := ab_F_mk cl_St (by decide) (ab_mem (List.mem_append_right _ (List.mem_of_getElem? (i := 55) rfl)) rfl) rfl (by decide +kernel)
theorem ff_Bw_88 : ab_F "HiddenRows$BestWays" 88 2 1 true (.array (.array .int)) := ab_F_mk cl_St (by decide) (ab_mem (List.mem_append_right _ (List.mem_of_getElem? (i := 62) rfl)) rfl) rfl (by decide +kernel)
theorem ff_Bw_91 : ab_F "HiddenRows$BestWays" 91 5 0 true (.array .long) := ab_F_mk cl_Wl (by decide) (ab_mem (List.mem_append_right _ (List.mem_of_getElem? (i := 130) rfl)) rfl) rfl (by decide +kernel)
theorem ff_Bw_94 : ab_F "HiddenRows$BestWays" 94 5 1 true (.array .int) := ab_F_mk cl_Wl (by decide) (ab_mem (List.mem_append_right _ (List.mem_of_getElem? (i := 133) rfl)) rfl) rfl (by decide +kernel)
theorem ff_Dr_9 : ab_F "HiddenRows$Drawing" 9 6 3 false .long := ab_F_mk cl_Dr (by decide) (ab_mem (List.mem_append_right _ (List.mem_of_getElem? (i := 174) rfl)) rfl) rfl (by decide +kernel)
theorem ff_Dr_15 : ab_F "HiddenRows$Drawing" 15 6 4 false .int := ab_F_mk cl_Dr (by decide) (ab_mem (List.mem_append_right _ (List.mem_of_getElem? (i := 175) rfl)) rfl) rfl (by decide +kernel)
theorem ff_Dr_19 : ab_F "HiddenRows$Drawing" 19 6 5 false .int := ab_F_mk cl_Dr (by decide) (ab_mem (List.mem_append_right _ (List.mem_of_getElem? (i := 176) rfl)) rfl) rfl (by decide +kernel)
theorem ff_Dr_22 : ab_F "HiddenRows$Drawing" 22 6 6 false .long := ab_F_mk cl_Dr (by decide) (ab_mem (List.mem_append_right _ (List.mem_of_getElem? (i := 177) rfl)) rfl) rfl (by decide +kernel)
theorem ff_Dr_25 : ab_F "HiddenRows$Drawing" 25 6 7 false .int := ab_F_mk cl_Dr (by decide) (ab_mem (List.mem_append_right _ (List.mem_of_getElem? (i := 178) rfl)) rfl) rfl (by decide +kernel)
theorem ff_Dr_28 : ab_F "HiddenRows$Drawing" 28 6 8 false .boolean := ab_F_mk cl_Dr (by decide) (ab_mem (List.mem_append_right _ (List.mem_of_getElem? (i := 180) rfl)) rfl) rfl (by decide +kernel)
theorem ff_Dr_32 : ab_F "HiddenRows$Drawing" 32 6 0 true (.object "HiddenRows$Row") := ab_F_mk cl_Dr (by decide) (ab_mem (List.mem_append_right _ (List.mem_of_getElem? (i := 171) rfl)) rfl) rfl (by decide +kernel)
theorem ff_Dr_36 : ab_F "HiddenRows$Drawing" 36 6 1 true (.object "HiddenRows$States") := ab_F_mk cl_Dr (by decide) (ab_mem (List.mem_append_right _ (List.mem_of_getElem? (i := 172) rfl)) rfl) rfl (by decide +kernel)
theorem ff_Dr_40 : ab_F "HiddenRows$Drawing" 40 6 2 true (.object "HiddenRows$WaySums") := ab_F_mk cl_Dr (by decide) (ab_mem (List.mem_append_right _ (List.mem_of_getElem? (i := 173) rfl)) rfl) rfl (by decide +kernel)
theorem ff_Dr_53 : ab_F "HiddenRows$Drawing" 53 1 2 false .int := ab_F_mk cl_Ro (by decide) (ab_mem (List.mem_append_right _ (List.mem_of_getElem? (i := 36) rfl)) rfl) rfl (by decide +kernel)
theorem ff_Dr_66 : ab_F "HiddenRows$Drawing" 66 2 0 true (.array (.array .int)) := ab_F_mk cl_St (by decide) (ab_mem (List.mem_append_right _ (List.mem_of_getElem? (i := 57) rfl)) rfl) rfl (by decide +kernel)
theorem ff_Dr_72 : ab_F "HiddenRows$Drawing" 72 2 2 false .int := ab_F_mk cl_St (by decide) (ab_mem (List.mem_append_right _ (List.mem_of_getElem? (i := 68) rfl)) rfl) rfl (by decide +kernel)
theorem ff_Dr_86 : ab_F "HiddenRows$Drawing" 86 3 4 true (.array (.array .long)) := ab_F_mk cl_Ws (by decide) (ab_mem (List.mem_append_right _ (List.mem_of_getElem? (i := 90) rfl)) rfl) rfl (by decide +kernel)
theorem ff_Dr_94 : ab_F "HiddenRows$Drawing" 94 2 1 true (.array (.array .int)) := ab_F_mk cl_St (by decide) (ab_mem (List.mem_append_right _ (List.mem_of_getElem? (i := 63) rfl)) rfl) rfl (by decide +kernel)
theorem ff_Ki_11 : ab_F "HiddenRows$Kinds" 11 7 0 true (.array (.array .int)) := ab_F_mk cl_Ki (by decide) (ab_mem (List.mem_append_right _ (List.mem_of_getElem? (i := 208) rfl)) rfl) rfl (by decide +kernel)
theorem ff_Ki_16 : ab_F "HiddenRows$Kinds" 16 7 1 true (.array (.array .int)) := ab_F_mk cl_Ki (by decide) (ab_mem (List.mem_append_right _ (List.mem_of_getElem? (i := 211) rfl)) rfl) rfl (by decide +kernel)
theorem ff_Ki_19 : ab_F "HiddenRows$Kinds" 19 7 2 false .int := ab_F_mk cl_Ki (by decide) (ab_mem (List.mem_append_right _ (List.mem_of_getElem? (i := 213) rfl)) rfl) rfl (by decide +kernel)
theorem ff_Ro_9 : ab_F "HiddenRows$Row" 9 1 0 true (.array .int) := ab_F_mk cl_Ro (by decide) (ab_mem (List.mem_append_right _ (List.mem_of_getElem? (i := 26) rfl)) rfl) rfl (by decide +kernel)
theorem ff_Ro_15 : ab_F "HiddenRows$Row" 15 1 1 true (.array .int) := ab_F_mk cl_Ro (by decide) (ab_mem (List.mem_append_right _ (List.mem_of_getElem? (i := 29) rfl)) rfl) rfl (by decide +kernel)
theorem ff_Ro_18 : ab_F "HiddenRows$Row" 18 1 2 false .int := ab_F_mk cl_Ro (by decide) (ab_mem (List.mem_append_right _ (List.mem_of_getElem? (i := 32) rfl)) rfl) rfl (by decide +kernel)
theorem ff_St_11 : ab_F "HiddenRows$States" 11 2 0 true (.array (.array .int)) := ab_F_mk cl_St (by decide) (ab_mem (List.mem_append_right _ (List.mem_of_getElem? (i := 54) rfl)) rfl) rfl (by decide +kernel)
theorem ff_St_16 : ab_F "HiddenRows$States" 16 2 1 true (.array (.array .int)) := ab_F_mk cl_St (by decide) (ab_mem (List.mem_append_right _ (List.mem_of_getElem? (i := 59) rfl)) rfl) rfl (by decide +kernel)
theorem ff_St_19 : ab_F "HiddenRows$States" 19 2 2 false .int := ab_F_mk cl_St (by decide) (ab_mem (List.mem_append_right _ (List.mem_of_getElem? (i := 64) rfl)) rfl) rfl (by decide +kernel)
theorem ff_Tt_13 : ab_F "HiddenRows$TreeTables" 13 8 2 true (.array (.array .long)) := ab_F_mk cl_Tt (by decide) (ab_mem (List.mem_append_right _ (List.mem_of_getElem? (i := 232) rfl)) rfl) rfl (by decide +kernel)
theorem ff_Tt_16 : ab_F "HiddenRows$TreeTables" 16 8 3 true (.array (.array .long)) := ab_F_mk cl_Tt (by decide) (ab_mem (List.mem_append_right _ (List.mem_of_getElem? (i := 233) rfl)) rfl) rfl (by decide +kernel)
theorem ff_Tt_19 : ab_F "HiddenRows$TreeTables" 19 8 4 true (.array (.array .long)) := ab_F_mk cl_Tt (by decide) (ab_mem (List.mem_append_right _ (List.mem_of_getElem? (i := 234) rfl)) rfl) rfl (by decide +kernel)
theorem ff_Tt_22 : ab_F "HiddenRows$TreeTables" 22 8 5 true (.array (.array .long)) := ab_F_mk cl_Tt (by decide) (ab_mem (List.mem_append_right _ (List.mem_of_getElem? (i := 235) rfl)) rfl) rfl (by decide +kernel)
theorem ff_Tt_25 : ab_F "HiddenRows$TreeTables" 25 8 6 true (.array .int) := ab_F_mk cl_Tt (by decide) (ab_mem (List.mem_append_right _ (List.mem_of_getElem? (i := 236) rfl)) rfl) rfl (by decide +kernel)
theorem ff_Tt_29 : ab_F "HiddenRows$TreeTables" 29 8 7 true (.array .int) := ab_F_mk cl_Tt (by decide) (ab_mem (List.mem_append_right _ (List.mem_of_getElem? (i := 237) rfl)) rfl) rfl (by decide +kernel)
theorem ff_Tt_32 : ab_F "HiddenRows$TreeTables" 32 8 8 false .int := ab_F_mk cl_Tt (by decide) (ab_mem (List.mem_append_right _ (List.mem_of_getElem? (i := 238) rfl)) rfl) rfl (by decide +kernel)
theorem ff_Tt_36 : ab_F "HiddenRows$TreeTables" 36 8 9 false .boolean := ab_F_mk cl_Tt (by decide) (ab_mem (List.mem_append_right _ (List.mem_of_getElem? (i := 239) rfl)) rfl) rfl (by decide +kernel)
theorem ff_Tt_40 : ab_F "HiddenRows$TreeTables" 40 8 0 true (.object "HiddenRows$Row") := ab_F_mk cl_Tt (by decide) (ab_mem (List.mem_append_right _ (List.mem_of_getElem? (i := 230) rfl)) rfl) rfl (by decide +kernel)
theorem ff_Tt_44 : ab_F "HiddenRows$TreeTables" 44 8 1 true (.object "HiddenRows$Kinds") := ab_F_mk cl_Tt (by decide) (ab_mem (List.mem_append_right _ (List.mem_of_getElem? (i := 231) rfl)) rfl) rfl (by decide +kernel)
theorem ff_Tt_51 : ab_F "HiddenRows$TreeTables" 51 1 2 false .int := ab_F_mk cl_Ro (by decide) (ab_mem (List.mem_append_right _ (List.mem_of_getElem? (i := 33) rfl)) rfl) rfl (by decide +kernel)
theorem ff_Tt_60 : ab_F "HiddenRows$TreeTables" 60 7 2 false .int := ab_F_mk cl_Ki (by decide) (ab_mem (List.mem_append_right _ (List.mem_of_getElem? (i := 215) rfl)) rfl) rfl (by decide +kernel)
theorem ff_Tt_68 : ab_F "HiddenRows$TreeTables" 68 1 0 true (.array .int) := ab_F_mk cl_Ro (by decide) (ab_mem (List.mem_append_right _ (List.mem_of_getElem? (i := 27) rfl)) rfl) rfl (by decide +kernel)
theorem ff_Tt_84 : ab_F "HiddenRows$TreeTables" 84 7 0 true (.array (.array .int)) := ab_F_mk cl_Ki (by decide) (ab_mem (List.mem_append_right _ (List.mem_of_getElem? (i := 210) rfl)) rfl) rfl (by decide +kernel)
theorem ff_Wl_9 : ab_F "HiddenRows$WayList" 9 5 0 true (.array .long) := ab_F_mk cl_Wl (by decide) (ab_mem (List.mem_append_right _ (List.mem_of_getElem? (i := 129) rfl)) rfl) rfl (by decide +kernel)
theorem ff_Wl_15 : ab_F "HiddenRows$WayList" 15 5 1 true (.array .int) := ab_F_mk cl_Wl (by decide) (ab_mem (List.mem_append_right _ (List.mem_of_getElem? (i := 132) rfl)) rfl) rfl (by decide +kernel)
theorem ff_Wl_19 : ab_F "HiddenRows$WayList" 19 5 2 false .int := ab_F_mk cl_Wl (by decide) (ab_mem (List.mem_append_right _ (List.mem_of_getElem? (i := 135) rfl)) rfl) rfl (by decide +kernel)
theorem ff_Ws_11 : ab_F "HiddenRows$WaySums" 11 3 3 true (.array (.array .long)) := ab_F_mk cl_Ws (by decide) (ab_mem (List.mem_append_right _ (List.mem_of_getElem? (i := 88) rfl)) rfl) rfl (by decide +kernel)
theorem ff_Ws_16 : ab_F "HiddenRows$WaySums" 16 3 4 true (.array (.array .long)) := ab_F_mk cl_Ws (by decide) (ab_mem (List.mem_append_right _ (List.mem_of_getElem? (i := 89) rfl)) rfl) rfl (by decide +kernel)
theorem ff_Ws_19 : ab_F "HiddenRows$WaySums" 19 3 5 true (.array (.array .long)) := ab_F_mk cl_Ws (by decide) (ab_mem (List.mem_append_right _ (List.mem_of_getElem? (i := 91) rfl)) rfl) rfl (by decide +kernel)
theorem ff_Ws_22 : ab_F "HiddenRows$WaySums" 22 3 6 true (.array (.array .long)) := ab_F_mk cl_Ws (by decide) (ab_mem (List.mem_append_right _ (List.mem_of_getElem? (i := 92) rfl)) rfl) rfl (by decide +kernel)
theorem ff_Ws_25 : ab_F "HiddenRows$WaySums" 25 3 7 true (.array (.array .long)) := ab_F_mk cl_Ws (by decide) (ab_mem (List.mem_append_right _ (List.mem_of_getElem? (i := 93) rfl)) rfl) rfl (by decide +kernel)
theorem ff_Ws_28 : ab_F "HiddenRows$WaySums" 28 3 8 false .boolean := ab_F_mk cl_Ws (by decide) (ab_mem (List.mem_append_right _ (List.mem_of_getElem? (i := 94) rfl)) rfl) rfl (by decide +kernel)
theorem ff_Ws_32 : ab_F "HiddenRows$WaySums" 32 3 0 true (.object "HiddenRows$Row") := ab_F_mk cl_Ws (by decide) (ab_mem (List.mem_append_right _ (List.mem_of_getElem? (i := 85) rfl)) rfl) rfl (by decide +kernel)
theorem ff_Ws_36 : ab_F "HiddenRows$WaySums" 36 3 1 true (.object "HiddenRows$States") := ab_F_mk cl_Ws (by decide) (ab_mem (List.mem_append_right _ (List.mem_of_getElem? (i := 86) rfl)) rfl) rfl (by decide +kernel)
theorem ff_Ws_40 : ab_F "HiddenRows$WaySums" 40 3 2 true .int := ab_F_mk cl_Ws (by decide) (ab_mem (List.mem_append_right _ (List.mem_of_getElem? (i := 87) rfl)) rfl) rfl (by decide +kernel)
theorem ff_Ws_47 : ab_F "HiddenRows$WaySums" 47 1 2 false .int := ab_F_mk cl_Ro (by decide) (ab_mem (List.mem_append_right _ (List.mem_of_getElem? (i := 34) rfl)) rfl) rfl (by decide +kernel)
theorem ff_Ws_52 : ab_F "HiddenRows$WaySums" 52 2 2 false .int := ab_F_mk cl_St (by decide) (ab_mem (List.mem_append_right _ (List.mem_of_getElem? (i := 66) rfl)) rfl) rfl (by decide +kernel)
theorem ff_Ws_67 : ab_F "HiddenRows$WaySums" 67 2 1 true (.array (.array .int)) := ab_F_mk cl_St (by decide) (ab_mem (List.mem_append_right _ (List.mem_of_getElem? (i := 61) rfl)) rfl) rfl (by decide +kernel)
theorem ff_Ws_78 : ab_F "HiddenRows$WaySums" 78 2 0 true (.array (.array .int)) := ab_F_mk cl_St (by decide) (ab_mem (List.mem_append_right _ (List.mem_of_getElem? (i := 58) rfl)) rfl) rfl (by decide +kernel)
theorem ff_Ws_94 : ab_F "HiddenRows$WaySums" 94 1 1 true (.array .int) := ab_F_mk cl_Ro (by decide) (ab_mem (List.mem_append_right _ (List.mem_of_getElem? (i := 30) rfl)) rfl) rfl (by decide +kernel)
theorem ff_Ws_98 : ab_F "HiddenRows$WaySums" 98 1 0 true (.array .int) := ab_F_mk cl_Ro (by decide) (ab_mem (List.mem_append_right _ (List.mem_of_getElem? (i := 28) rfl)) rfl) rfl (by decide +kernel)
set_option maxRecDepth 20000 in
theorem ff_Mo_7 : ab_F "HiddenRowsModel" 7 9 1 true (.array .int) := ab_F_mk cl_Mo (by decide) (ab_mem (List.mem_append_right _ (List.mem_of_getElem? (i := 638) rfl)) rfl) rfl (by decide +kernel)
set_option maxRecDepth 20000 in
theorem ff_Mo_13 : ab_F "HiddenRowsModel" 13 9 2 true (.array .int) := ab_F_mk cl_Mo (by decide) (ab_mem (List.mem_append_right _ (List.mem_of_getElem? (i := 639) rfl)) rfl) rfl (by decide +kernel)
set_option maxRecDepth 20000 in
theorem ff_Mo_16 : ab_F "HiddenRowsModel" 16 9 4 true (.array .int) := ab_F_mk cl_Mo (by decide) (ab_mem (List.mem_append_right _ (List.mem_of_getElem? (i := 641) rfl)) rfl) rfl (by decide +kernel)
set_option maxRecDepth 20000 in
theorem ff_Mo_19 : ab_F "HiddenRowsModel" 19 9 5 true (.array .int) := ab_F_mk cl_Mo (by decide) (ab_mem (List.mem_append_right _ (List.mem_of_getElem? (i := 642) rfl)) rfl) rfl (by decide +kernel)
set_option maxRecDepth 20000 in
theorem ff_Mo_22 : ab_F "HiddenRowsModel" 22 9 7 true (.array .int) := ab_F_mk cl_Mo (by decide) (ab_mem (List.mem_append_right _ (List.mem_of_getElem? (i := 644) rfl)) rfl) rfl (by decide +kernel)
set_option maxRecDepth 20000 in
theorem ff_Mo_25 : ab_F "HiddenRowsModel" 25 9 8 true (.array .int) := ab_F_mk cl_Mo (by decide) (ab_mem (List.mem_append_right _ (List.mem_of_getElem? (i := 645) rfl)) rfl) rfl (by decide +kernel)
set_option maxRecDepth 20000 in
theorem ff_Mo_28 : ab_F "HiddenRowsModel" 28 9 11 true (.array .int) := ab_F_mk cl_Mo (by decide) (ab_mem (List.mem_append_right _ (List.mem_of_getElem? (i := 648) rfl)) rfl) rfl (by decide +kernel)
set_option maxRecDepth 20000 in
theorem ff_Mo_31 : ab_F "HiddenRowsModel" 31 9 14 true (.array .long) := ab_F_mk cl_Mo (by decide) (ab_mem (List.mem_append_right _ (List.mem_of_getElem? (i := 651) rfl)) rfl) rfl (by decide +kernel)
set_option maxRecDepth 20000 in
theorem ff_Mo_35 : ab_F "HiddenRowsModel" 35 9 15 true (.array .long) := ab_F_mk cl_Mo (by decide) (ab_mem (List.mem_append_right _ (List.mem_of_getElem? (i := 652) rfl)) rfl) rfl (by decide +kernel)
set_option maxRecDepth 20000 in
theorem ff_Mo_38 : ab_F "HiddenRowsModel" 38 9 16 true (.array .long) := ab_F_mk cl_Mo (by decide) (ab_mem (List.mem_append_right _ (List.mem_of_getElem? (i := 653) rfl)) rfl) rfl (by decide +kernel)
set_option maxRecDepth 20000 in
theorem ff_Mo_41 : ab_F "HiddenRowsModel" 41 9 18 true (.array .long) := ab_F_mk cl_Mo (by decide) (ab_mem (List.mem_append_right _ (List.mem_of_getElem? (i := 655) rfl)) rfl) rfl (by decide +kernel)
set_option maxRecDepth 20000 in
theorem ff_Mo_44 : ab_F "HiddenRowsModel" 44 9 19 true (.array .int) := ab_F_mk cl_Mo (by decide) (ab_mem (List.mem_append_right _ (List.mem_of_getElem? (i := 656) rfl)) rfl) rfl (by decide +kernel)
set_option maxRecDepth 20000 in
theorem ff_Mo_47 : ab_F "HiddenRowsModel" 47 9 20 true (.array .int) := ab_F_mk cl_Mo (by decide) (ab_mem (List.mem_append_right _ (List.mem_of_getElem? (i := 657) rfl)) rfl) rfl (by decide +kernel)
set_option maxRecDepth 20000 in
theorem ff_Mo_50 : ab_F "HiddenRowsModel" 50 9 21 true (.array .long) := ab_F_mk cl_Mo (by decide) (ab_mem (List.mem_append_right _ (List.mem_of_getElem? (i := 658) rfl)) rfl) rfl (by decide +kernel)
set_option maxRecDepth 20000 in
theorem ff_Mo_53 : ab_F "HiddenRowsModel" 53 9 22 true (.array .long) := ab_F_mk cl_Mo (by decide) (ab_mem (List.mem_append_right _ (List.mem_of_getElem? (i := 659) rfl)) rfl) rfl (by decide +kernel)
set_option maxRecDepth 20000 in
theorem ff_Mo_56 : ab_F "HiddenRowsModel" 56 9 23 true (.array .long) := ab_F_mk cl_Mo (by decide) (ab_mem (List.mem_append_right _ (List.mem_of_getElem? (i := 660) rfl)) rfl) rfl (by decide +kernel)
set_option maxRecDepth 20000 in
theorem ff_Mo_59 : ab_F "HiddenRowsModel" 59 9 24 true (.array .int) := ab_F_mk cl_Mo (by decide) (ab_mem (List.mem_append_right _ (List.mem_of_getElem? (i := 661) rfl)) rfl) rfl (by decide +kernel)
set_option maxRecDepth 20000 in
theorem ff_Mo_62 : ab_F "HiddenRowsModel" 62 9 25 true (.array .int) := ab_F_mk cl_Mo (by decide) (ab_mem (List.mem_append_right _ (List.mem_of_getElem? (i := 662) rfl)) rfl) rfl (by decide +kernel)
set_option maxRecDepth 20000 in
theorem ff_Mo_65 : ab_F "HiddenRowsModel" 65 9 26 true (.array .int) := ab_F_mk cl_Mo (by decide) (ab_mem (List.mem_append_right _ (List.mem_of_getElem? (i := 663) rfl)) rfl) rfl (by decide +kernel)
set_option maxRecDepth 20000 in
theorem ff_Mo_68 : ab_F "HiddenRowsModel" 68 9 9 false .boolean := ab_F_mk cl_Mo (by decide) (ab_mem (List.mem_append_right _ (List.mem_of_getElem? (i := 646) rfl)) rfl) rfl (by decide +kernel)
set_option maxRecDepth 20000 in
theorem ff_Mo_72 : ab_F "HiddenRowsModel" 72 9 10 false .boolean := ab_F_mk cl_Mo (by decide) (ab_mem (List.mem_append_right _ (List.mem_of_getElem? (i := 647) rfl)) rfl) rfl (by decide +kernel)
set_option maxRecDepth 20000 in
theorem ff_Mo_75 : ab_F "HiddenRowsModel" 75 9 0 false .int := ab_F_mk cl_Mo (by decide) (ab_mem (List.mem_append_right _ (List.mem_of_getElem? (i := 637) rfl)) rfl) rfl (by decide +kernel)
set_option maxRecDepth 20000 in
theorem ff_Mo_79 : ab_F "HiddenRowsModel" 79 9 3 false .int := ab_F_mk cl_Mo (by decide) (ab_mem (List.mem_append_right _ (List.mem_of_getElem? (i := 640) rfl)) rfl) rfl (by decide +kernel)
set_option maxRecDepth 20000 in
theorem ff_Mo_82 : ab_F "HiddenRowsModel" 82 9 6 false .int := ab_F_mk cl_Mo (by decide) (ab_mem (List.mem_append_right _ (List.mem_of_getElem? (i := 643) rfl)) rfl) rfl (by decide +kernel)
set_option maxRecDepth 20000 in
theorem ff_Mo_113 : ab_F "HiddenRowsModel" 113 9 17 false .int := ab_F_mk cl_Mo (by decide) (ab_mem (List.mem_append_right _ (List.mem_of_getElem? (i := 654) rfl)) rfl) rfl (by decide +kernel)
set_option maxRecDepth 20000 in
theorem ff_Mo_116 : ab_F "HiddenRowsModel" 116 9 12 false .long := ab_F_mk cl_Mo (by decide) (ab_mem (List.mem_append_right _ (List.mem_of_getElem? (i := 649) rfl)) rfl) rfl (by decide +kernel)
set_option maxRecDepth 20000 in
theorem ff_Mo_120 : ab_F "HiddenRowsModel" 120 9 13 false .int := ab_F_mk cl_Mo (by decide) (ab_mem (List.mem_append_right _ (List.mem_of_getElem? (i := 650) rfl)) rfl) rfl (by decide +kernel)
theorem kc_H_27 : Cond.constant "HiddenRows" 27 (2147483647) ∈ ab_tbl := (ab_mem (List.mem_append_right _ (List.mem_of_getElem? (i := 78) rfl)) rfl)
theorem kc_H_126 : Cond.constantLong "HiddenRows" 126 (-1) ∈ ab_tbl := (ab_mem (List.mem_append_right _ (List.mem_of_getElem? (i := 417) rfl)) rfl)
theorem kc_H_131 : Cond.constantLong "HiddenRows" 131 (-2) ∈ ab_tbl := (ab_mem (List.mem_append_right _ (List.mem_of_getElem? (i := 421) rfl)) rfl)
theorem kc_H_160 : Cond.constantLong "HiddenRows" 160 (-3) ∈ ab_tbl := (ab_mem (List.mem_append_right _ (List.mem_of_getElem? (i := 432) rfl)) rfl)
set_option maxRecDepth 20000 in
theorem kc_Dr_44 : Cond.constant "HiddenRows$Drawing" 44 (1664525) ∈ ab_tbl := (ab_mem (List.mem_append_right _ (List.mem_of_getElem? (i := 511) rfl)) rfl)
set_option maxRecDepth 20000 in
theorem kc_Dr_45 : Cond.constant "HiddenRows$Drawing" 45 (1013904223) ∈ ab_tbl := (ab_mem (List.mem_append_right _ (List.mem_of_getElem? (i := 512) rfl)) rfl)
set_option maxRecDepth 20000 in
theorem kc_Dr_46 : Cond.constantLong "HiddenRows$Drawing" 46 (2147483648) ∈ ab_tbl := (ab_mem (List.mem_append_right _ (List.mem_of_getElem? (i := 513) rfl)) rfl)
set_option maxRecDepth 20000 in
theorem kc_Mo_145 : Cond.constantLong "HiddenRowsModel" 145 (-1) ∈ ab_tbl := (ab_mem (List.mem_append_right _ (List.mem_of_getElem? (i := 818) rfl)) rfl)
set_option maxRecDepth 20000 in
theorem kc_Mo_147 : Cond.constantLong "HiddenRowsModel" 147 (-2) ∈ ab_tbl := (ab_mem (List.mem_append_right _ (List.mem_of_getElem? (i := 819) rfl)) rfl)
set_option maxRecDepth 20000 in
theorem kc_Mo_149 : Cond.constantLong "HiddenRowsModel" 149 (-3) ∈ ab_tbl := (ab_mem (List.mem_append_right _ (List.mem_of_getElem? (i := 820) rfl)) rfl)
set_option maxRecDepth 20000 in
theorem kc_Mo_155 : Cond.constant "HiddenRowsModel" 155 (1664525) ∈ ab_tbl := (ab_mem (List.mem_append_right _ (List.mem_of_getElem? (i := 851) rfl)) rfl)
set_option maxRecDepth 20000 in
theorem kc_Mo_156 : Cond.constant "HiddenRowsModel" 156 (1013904223) ∈ ab_tbl := (ab_mem (List.mem_append_right _ (List.mem_of_getElem? (i := 852) rfl)) rfl)
set_option maxRecDepth 20000 in
theorem kc_Mo_157 : Cond.constantLong "HiddenRowsModel" 157 (2147483648) ∈ ab_tbl := (ab_mem (List.mem_append_right _ (List.mem_of_getElem? (i := 853) rfl)) rfl)
theorem lk_H_3 : Cond.methodLink "HiddenRows" 3 ⟨"java/lang/Object", "<init>", "()V"⟩ ∈ ab_tbl := (ab_mem (List.mem_append_right _ (List.mem_of_getElem? (i := 17) rfl)) rfl)
theorem lk_H_28 : Cond.methodLink "HiddenRows" 28 ⟨"HiddenRows$WaySums", "<init>", "(LHiddenRows$Row;LHiddenRows$States;I)V"⟩ ∈ ab_tbl := (ab_mem (List.mem_append_right _ (List.mem_of_getElem? (i := 79) rfl)) rfl)
theorem lk_H_40 : Cond.methodLink "HiddenRows" 40 ⟨"HiddenRows$BestWays", "<init>", "(LHiddenRows$Row;LHiddenRows$States;LHiddenRows$WaySums;)V"⟩ ∈ ab_tbl := (ab_mem (List.mem_append_right _ (List.mem_of_getElem? (i := 118) rfl)) rfl)
theorem lk_H_49 : Cond.methodLink "HiddenRows" 49 ⟨"HiddenRows$Drawing", "<init>", "(LHiddenRows$Row;LHiddenRows$States;LHiddenRows$WaySums;)V"⟩ ∈ ab_tbl := (ab_mem (List.mem_append_right _ (List.mem_of_getElem? (i := 167) rfl)) rfl)
theorem lk_H_63 : Cond.methodLink "HiddenRows" 63 ⟨"HiddenRows$TreeTables", "<init>", "(LHiddenRows$Row;LHiddenRows$Kinds;)V"⟩ ∈ ab_tbl := (ab_mem (List.mem_append_right _ (List.mem_of_getElem? (i := 225) rfl)) rfl)
theorem lk_H_74 : Cond.methodLink "HiddenRows" 74 ⟨"HiddenRows", "forgetWays", "()V"⟩ ∈ ab_tbl := (ab_mem (List.mem_append_right _ (List.mem_of_getElem? (i := 291) rfl)) rfl)
theorem lk_H_77 : Cond.methodLink "HiddenRows" 77 ⟨"HiddenRows$States", "addOne", "()I"⟩ ∈ ab_tbl := (ab_mem (List.mem_append_right _ (List.mem_of_getElem? (i := 295) rfl)) rfl)
theorem lk_H_81 : Cond.methodLink "HiddenRows" 81 ⟨"HiddenRows$States", "has", "(I)Z"⟩ ∈ ab_tbl := (ab_mem (List.mem_append_right _ (List.mem_of_getElem? (i := 303) rfl)) rfl)
theorem lk_H_85 : Cond.methodLink "HiddenRows" 85 ⟨"HiddenRows", "isWeight", "(I)Z"⟩ ∈ ab_tbl := (ab_mem (List.mem_append_right _ (List.mem_of_getElem? (i := 307) rfl)) rfl)
theorem lk_H_96 : Cond.methodLink "HiddenRows" 96 ⟨"HiddenRows", "forgetTrees", "()V"⟩ ∈ ab_tbl := (ab_mem (List.mem_append_right _ (List.mem_of_getElem? (i := 318) rfl)) rfl)
theorem lk_H_99 : Cond.methodLink "HiddenRows" 99 ⟨"HiddenRows$Kinds", "has", "(I)Z"⟩ ∈ ab_tbl := (ab_mem (List.mem_append_right _ (List.mem_of_getElem? (i := 326) rfl)) rfl)
theorem lk_H_100 : Cond.methodLink "HiddenRows" 100 ⟨"HiddenRows$Kinds", "parts", "(II)I"⟩ ∈ ab_tbl := (ab_mem (List.mem_append_right _ (List.mem_of_getElem? (i := 330) rfl)) rfl)
theorem lk_H_113 : Cond.methodLink "HiddenRows" 113 ⟨"HiddenRows$Row", "append", "(I)V"⟩ ∈ ab_tbl := (ab_mem (List.mem_append_right _ (List.mem_of_getElem? (i := 341) rfl)) rfl)
theorem lk_H_117 : Cond.methodLink "HiddenRows" 117 ⟨"HiddenRows$Row", "has", "(I)Z"⟩ ∈ ab_tbl := (ab_mem (List.mem_append_right _ (List.mem_of_getElem? (i := 353) rfl)) rfl)
theorem lk_H_122 : Cond.methodLink "HiddenRows" 122 ⟨"HiddenRows$WaySums", "whole", "()J"⟩ ∈ ab_tbl := (ab_mem (List.mem_append_right _ (List.mem_of_getElem? (i := 361) rfl)) rfl)
theorem lk_H_128 : Cond.methodLink "HiddenRows" 128 ⟨"HiddenRows", "isPart", "(I)Z"⟩ ∈ ab_tbl := (ab_mem (List.mem_append_right _ (List.mem_of_getElem? (i := 418) rfl)) rfl)
theorem lk_H_133 : Cond.methodLink "HiddenRows" 133 ⟨"HiddenRows$WaySums", "over", "(II)J"⟩ ∈ ab_tbl := (ab_mem (List.mem_append_right _ (List.mem_of_getElem? (i := 422) rfl)) rfl)
theorem lk_H_137 : Cond.methodLink "HiddenRows" 137 ⟨"HiddenRows", "lowestTerms", "(JJI)J"⟩ ∈ ab_tbl := (ab_mem (List.mem_append_right _ (List.mem_of_getElem? (i := 429) rfl)) rfl)
theorem lk_H_141 : Cond.methodLink "HiddenRows" 141 ⟨"HiddenRows$WaySums", "beginning", "(II)J"⟩ ∈ ab_tbl := (ab_mem (List.mem_append_right _ (List.mem_of_getElem? (i := 440) rfl)) rfl)
theorem lk_H_144 : Cond.methodLink "HiddenRows" 144 ⟨"HiddenRows$WaySums", "moving", "(III)J"⟩ ∈ ab_tbl := (ab_mem (List.mem_append_right _ (List.mem_of_getElem? (i := 448) rfl)) rfl)
set_option maxRecDepth 20000 in
theorem lk_H_148 : Cond.methodLink "HiddenRows" 148 ⟨"HiddenRows$BestWays", "list", "()LHiddenRows$WayList;"⟩ ∈ ab_tbl := (ab_mem (List.mem_append_right _ (List.mem_of_getElem? (i := 460) rfl)) rfl)
set_option maxRecDepth 20000 in
theorem lk_H_165 : Cond.methodLink "HiddenRows" 165 ⟨"HiddenRows$Row", "toldAt", "(II)I"⟩ ∈ ab_tbl := (ab_mem (List.mem_append_right _ (List.mem_of_getElem? (i := 500) rfl)) rfl)
set_option maxRecDepth 20000 in
theorem lk_H_168 : Cond.methodLink "HiddenRows" 168 ⟨"HiddenRows$Drawing", "spread", "(I)J"⟩ ∈ ab_tbl := (ab_mem (List.mem_append_right _ (List.mem_of_getElem? (i := 508) rfl)) rfl)
set_option maxRecDepth 20000 in
theorem lk_H_172 : Cond.methodLink "HiddenRows" 172 ⟨"HiddenRows$Drawing", "draw", "(J)J"⟩ ∈ ab_tbl := (ab_mem (List.mem_append_right _ (List.mem_of_getElem? (i := 514) rfl)) rfl)
set_option maxRecDepth 20000 in
theorem lk_H_182 : Cond.methodLink "HiddenRows" 182 ⟨"HiddenRows$TreeTables", "sumOfAll", "(I)J"⟩ ∈ ab_tbl := (ab_mem (List.mem_append_right _ (List.mem_of_getElem? (i := 549) rfl)) rfl)
set_option maxRecDepth 20000 in
theorem lk_H_185 : Cond.methodLink "HiddenRows" 185 ⟨"HiddenRows$TreeTables", "countOfAll", "(I)J"⟩ ∈ ab_tbl := (ab_mem (List.mem_append_right _ (List.mem_of_getElem? (i := 583) rfl)) rfl)
set_option maxRecDepth 20000 in
theorem lk_H_188 : Cond.methodLink "HiddenRows" 188 ⟨"HiddenRows$TreeTables", "bestOfAll", "(I)J"⟩ ∈ ab_tbl := (ab_mem (List.mem_append_right _ (List.mem_of_getElem? (i := 591) rfl)) rfl)
set_option maxRecDepth 20000 in
theorem lk_H_191 : Cond.methodLink "HiddenRows" 191 ⟨"HiddenRows$TreeTables", "bestTells", "(II)I"⟩ ∈ ab_tbl := (ab_mem (List.mem_append_right _ (List.mem_of_getElem? (i := 599) rfl)) rfl)
set_option maxRecDepth 20000 in
theorem lk_H_194 : Cond.methodLink "HiddenRows" 194 ⟨"HiddenRows$TreeTables", "sumWith", "(IIII)J"⟩ ∈ ab_tbl := (ab_mem (List.mem_append_right _ (List.mem_of_getElem? (i := 619) rfl)) rfl)
theorem lk_H_201 : Cond.methodLink "HiddenRows" 201 ⟨"HiddenRows", "commonDivisor", "(JJ)J"⟩ ∈ ab_tbl := (ab_mem (List.mem_append_right _ (List.mem_of_getElem? (i := 433) rfl)) rfl)
theorem lk_Bw_3 : Cond.methodLink "HiddenRows$BestWays" 3 ⟨"java/lang/Object", "<init>", "()V"⟩ ∈ ab_tbl := (ab_mem (List.mem_append_right _ (List.mem_of_getElem? (i := 121) rfl)) rfl)
set_option maxRecDepth 20000 in
theorem lk_Bw_38 : Cond.methodLink "HiddenRows$BestWays" 38 ⟨"HiddenRows$WaySums", "refresh", "()V"⟩ ∈ ab_tbl := (ab_mem (List.mem_append_right _ (List.mem_of_getElem? (i := 464) rfl)) rfl)
set_option maxRecDepth 20000 in
theorem lk_Bw_54 : Cond.methodLink "HiddenRows$BestWays" 54 ⟨"HiddenRows$BestWays", "listEnds", "(II)V"⟩ ∈ ab_tbl := (ab_mem (List.mem_append_right _ (List.mem_of_getElem? (i := 465) rfl)) rfl)
set_option maxRecDepth 20000 in
theorem lk_Bw_58 : Cond.methodLink "HiddenRows$BestWays" 58 ⟨"HiddenRows$BestWays", "listWhole", "()V"⟩ ∈ ab_tbl := (ab_mem (List.mem_append_right _ (List.mem_of_getElem? (i := 492) rfl)) rfl)
set_option maxRecDepth 20000 in
theorem lk_Bw_68 : Cond.methodLink "HiddenRows$BestWays" 68 ⟨"HiddenRows$BestWays", "endsFrom", "(II)LHiddenRows$WayList;"⟩ ∈ ab_tbl := (ab_mem (List.mem_append_right _ (List.mem_of_getElem? (i := 469) rfl)) rfl)
set_option maxRecDepth 20000 in
theorem lk_Bw_72 : Cond.methodLink "HiddenRows$BestWays" 72 ⟨"HiddenRows$BestWays", "offerAll", "(LHiddenRows$WayList;JILHiddenRows$WayList;)V"⟩ ∈ ab_tbl := (ab_mem (List.mem_append_right _ (List.mem_of_getElem? (i := 489) rfl)) rfl)
set_option maxRecDepth 20000 in
theorem lk_Bw_76 : Cond.methodLink "HiddenRows$BestWays" 76 ⟨"HiddenRows$WaySums", "segment", "(III)J"⟩ ∈ ab_tbl := (ab_mem (List.mem_append_right _ (List.mem_of_getElem? (i := 473) rfl)) rfl)
set_option maxRecDepth 20000 in
theorem lk_Bw_80 : Cond.methodLink "HiddenRows$BestWays" 80 ⟨"HiddenRows$WayList", "offer", "(JI)Z"⟩ ∈ ab_tbl := (ab_mem (List.mem_append_right _ (List.mem_of_getElem? (i := 474) rfl)) rfl)
set_option maxRecDepth 20000 in
theorem lk_Bw_84 : Cond.methodLink "HiddenRows$BestWays" 84 ⟨"HiddenRows$BestWays", "offerMoves", "(LHiddenRows$WayList;JIII)V"⟩ ∈ ab_tbl := (ab_mem (List.mem_append_right _ (List.mem_of_getElem? (i := 485) rfl)) rfl)
theorem lk_Dr_3 : Cond.methodLink "HiddenRows$Drawing" 3 ⟨"java/lang/Object", "<init>", "()V"⟩ ∈ ab_tbl := (ab_mem (List.mem_append_right _ (List.mem_of_getElem? (i := 170) rfl)) rfl)
set_option maxRecDepth 20000 in
theorem lk_Dr_48 : Cond.methodLink "HiddenRows$Drawing" 48 ⟨"HiddenRows$WaySums", "refresh", "()V"⟩ ∈ ab_tbl := (ab_mem (List.mem_append_right _ (List.mem_of_getElem? (i := 518) rfl)) rfl)
set_option maxRecDepth 20000 in
theorem lk_Dr_58 : Cond.methodLink "HiddenRows$Drawing" 58 ⟨"HiddenRows$Drawing", "openSegment", "(I)J"⟩ ∈ ab_tbl := (ab_mem (List.mem_append_right _ (List.mem_of_getElem? (i := 519) rfl)) rfl)
set_option maxRecDepth 20000 in
theorem lk_Dr_62 : Cond.methodLink "HiddenRows$Drawing" 62 ⟨"HiddenRows$Drawing", "tellPlace", "(IJ)J"⟩ ∈ ab_tbl := (ab_mem (List.mem_append_right _ (List.mem_of_getElem? (i := 524) rfl)) rfl)
set_option maxRecDepth 20000 in
theorem lk_Dr_75 : Cond.methodLink "HiddenRows$Drawing" 75 ⟨"HiddenRows$Drawing", "sumTelling", "(II)J"⟩ ∈ ab_tbl := (ab_mem (List.mem_append_right _ (List.mem_of_getElem? (i := 528) rfl)) rfl)
set_option maxRecDepth 20000 in
theorem lk_Dr_79 : Cond.methodLink "HiddenRows$Drawing" 79 ⟨"HiddenRows$Drawing", "take", "(II)V"⟩ ∈ ab_tbl := (ab_mem (List.mem_append_right _ (List.mem_of_getElem? (i := 537) rfl)) rfl)
set_option maxRecDepth 20000 in
theorem lk_Dr_83 : Cond.methodLink "HiddenRows$Drawing" 83 ⟨"HiddenRows$Drawing", "closing", "(II)J"⟩ ∈ ab_tbl := (ab_mem (List.mem_append_right _ (List.mem_of_getElem? (i := 532) rfl)) rfl)
set_option maxRecDepth 20000 in
theorem lk_Dr_90 : Cond.methodLink "HiddenRows$Drawing" 90 ⟨"HiddenRows$WaySums", "longerThan", "(III)J"⟩ ∈ ab_tbl := (ab_mem (List.mem_append_right _ (List.mem_of_getElem? (i := 536) rfl)) rfl)
set_option maxRecDepth 20000 in
theorem lk_Dr_97 : Cond.methodLink "HiddenRows$Drawing" 97 ⟨"HiddenRows$WaySums", "segment", "(III)J"⟩ ∈ ab_tbl := (ab_mem (List.mem_append_right _ (List.mem_of_getElem? (i := 523) rfl)) rfl)
theorem lk_Ki_3 : Cond.methodLink "HiddenRows$Kinds" 3 ⟨"java/lang/Object", "<init>", "()V"⟩ ∈ ab_tbl := (ab_mem (List.mem_append_right _ (List.mem_of_getElem? (i := 206) rfl)) rfl)
theorem lk_Ro_3 : Cond.methodLink "HiddenRows$Row" 3 ⟨"java/lang/Object", "<init>", "()V"⟩ ∈ ab_tbl := (ab_mem (List.mem_append_right _ (List.mem_of_getElem? (i := 25) rfl)) rfl)
theorem lk_St_3 : Cond.methodLink "HiddenRows$States" 3 ⟨"java/lang/Object", "<init>", "()V"⟩ ∈ ab_tbl := (ab_mem (List.mem_append_right _ (List.mem_of_getElem? (i := 51) rfl)) rfl)
theorem lk_Tt_3 : Cond.methodLink "HiddenRows$TreeTables" 3 ⟨"java/lang/Object", "<init>", "()V"⟩ ∈ ab_tbl := (ab_mem (List.mem_append_right _ (List.mem_of_getElem? (i := 228) rfl)) rfl)
set_option maxRecDepth 20000 in
theorem lk_Tt_48 : Cond.methodLink "HiddenRows$TreeTables" 48 ⟨"HiddenRows$TreeTables", "refresh", "()V"⟩ ∈ ab_tbl := (ab_mem (List.mem_append_right _ (List.mem_of_getElem? (i := 553) rfl)) rfl)
set_option maxRecDepth 20000 in
theorem lk_Tt_56 : Cond.methodLink "HiddenRows$TreeTables" 56 ⟨"HiddenRows$TreeTables", "spanOf", "(II)I"⟩ ∈ ab_tbl := (ab_mem (List.mem_append_right _ (List.mem_of_getElem? (i := 561) rfl)) rfl)
set_option maxRecDepth 20000 in
theorem lk_Tt_64 : Cond.methodLink "HiddenRows$TreeTables" 64 ⟨"HiddenRows$TreeTables", "fill", "(III)V"⟩ ∈ ab_tbl := (ab_mem (List.mem_append_right _ (List.mem_of_getElem? (i := 557) rfl)) rfl)
set_option maxRecDepth 20000 in
theorem lk_Tt_71 : Cond.methodLink "HiddenRows$TreeTables" 71 ⟨"HiddenRows$Kinds", "leafOf", "(II)I"⟩ ∈ ab_tbl := (ab_mem (List.mem_append_right _ (List.mem_of_getElem? (i := 564) rfl)) rfl)
set_option maxRecDepth 20000 in
theorem lk_Tt_74 : Cond.methodLink "HiddenRows$TreeTables" 74 ⟨"java/lang/Math", "min", "(JJ)J"⟩ ∈ ab_tbl := (ab_mem (List.mem_append_right _ (List.mem_of_getElem? (i := 568) rfl)) rfl)
set_option maxRecDepth 20000 in
theorem lk_Tt_80 : Cond.methodLink "HiddenRows$TreeTables" 80 ⟨"HiddenRows$TreeTables", "addSplit", "(IIII)V"⟩ ∈ ab_tbl := (ab_mem (List.mem_append_right _ (List.mem_of_getElem? (i := 571) rfl)) rfl)
set_option maxRecDepth 20000 in
theorem lk_Tt_88 : Cond.methodLink "HiddenRows$TreeTables" 88 ⟨"HiddenRows$Kinds", "parts", "(II)I"⟩ ∈ ab_tbl := (ab_mem (List.mem_append_right _ (List.mem_of_getElem? (i := 575) rfl)) rfl)
set_option maxRecDepth 20000 in
theorem lk_Tt_91 : Cond.methodLink "HiddenRows$TreeTables" 91 ⟨"java/lang/Math", "max", "(JJ)J"⟩ ∈ ab_tbl := (ab_mem (List.mem_append_right _ (List.mem_of_getElem? (i := 576) rfl)) rfl)
set_option maxRecDepth 20000 in
theorem lk_Tt_94 : Cond.methodLink "HiddenRows$TreeTables" 94 ⟨"HiddenRows$TreeTables", "push", "(II)V"⟩ ∈ ab_tbl := (ab_mem (List.mem_append_right _ (List.mem_of_getElem? (i := 603) rfl)) rfl)
set_option maxRecDepth 20000 in
theorem lk_Tt_98 : Cond.methodLink "HiddenRows$TreeTables" 98 ⟨"HiddenRows$TreeTables", "tellNode", "(II)I"⟩ ∈ ab_tbl := (ab_mem (List.mem_append_right _ (List.mem_of_getElem? (i := 607) rfl)) rfl)
set_option maxRecDepth 20000 in
theorem lk_Tt_101 : Cond.methodLink "HiddenRows$TreeTables" 101 ⟨"HiddenRows$TreeTables", "bestParts", "(IIII)I"⟩ ∈ ab_tbl := (ab_mem (List.mem_append_right _ (List.mem_of_getElem? (i := 611) rfl)) rfl)
set_option maxRecDepth 20000 in
theorem lk_Tt_105 : Cond.methodLink "HiddenRows$TreeTables" 105 ⟨"HiddenRows$TreeTables", "addAround", "(IIII)V"⟩ ∈ ab_tbl := (ab_mem (List.mem_append_right _ (List.mem_of_getElem? (i := 623) rfl)) rfl)
set_option maxRecDepth 20000 in
theorem lk_Tt_108 : Cond.methodLink "HiddenRows$TreeTables" 108 ⟨"HiddenRows$TreeTables", "addProducts", "(I[[JI[[JI)V"⟩ ∈ ab_tbl := (ab_mem (List.mem_append_right _ (List.mem_of_getElem? (i := 627) rfl)) rfl)
theorem lk_Wl_3 : Cond.methodLink "HiddenRows$WayList" 3 ⟨"java/lang/Object", "<init>", "()V"⟩ ∈ ab_tbl := (ab_mem (List.mem_append_right _ (List.mem_of_getElem? (i := 128) rfl)) rfl)
set_option maxRecDepth 20000 in
theorem lk_Wl_23 : Cond.methodLink "HiddenRows$WayList" 23 ⟨"HiddenRows$WayList", "isBetter", "(JII)Z"⟩ ∈ ab_tbl := (ab_mem (List.mem_append_right _ (List.mem_of_getElem? (i := 478) rfl)) rfl)
set_option maxRecDepth 20000 in
theorem lk_Wl_27 : Cond.methodLink "HiddenRows$WayList" 27 ⟨"java/lang/Math", "min", "(II)I"⟩ ∈ ab_tbl := (ab_mem (List.mem_append_right _ (List.mem_of_getElem? (i := 482) rfl)) rfl)
theorem lk_Ws_3 : Cond.methodLink "HiddenRows$WaySums" 3 ⟨"java/lang/Object", "<init>", "()V"⟩ ∈ ab_tbl := (ab_mem (List.mem_append_right _ (List.mem_of_getElem? (i := 82) rfl)) rfl)
theorem lk_Ws_44 : Cond.methodLink "HiddenRows$WaySums" 44 ⟨"HiddenRows$WaySums", "refresh", "()V"⟩ ∈ ab_tbl := (ab_mem (List.mem_append_right _ (List.mem_of_getElem? (i := 365) rfl)) rfl)
theorem lk_Ws_57 : Cond.methodLink "HiddenRows$WaySums" 57 ⟨"java/lang/Math", "max", "(II)I"⟩ ∈ ab_tbl := (ab_mem (List.mem_append_right _ (List.mem_of_getElem? (i := 426) rfl)) rfl)
theorem lk_Ws_63 : Cond.methodLink "HiddenRows$WaySums" 63 ⟨"HiddenRows$WaySums", "longerThan", "(III)J"⟩ ∈ ab_tbl := (ab_mem (List.mem_append_right _ (List.mem_of_getElem? (i := 385) rfl)) rfl)
theorem lk_Ws_71 : Cond.methodLink "HiddenRows$WaySums" 71 ⟨"HiddenRows$WaySums", "cut", "(I)J"⟩ ∈ ab_tbl := (ab_mem (List.mem_append_right _ (List.mem_of_getElem? (i := 377) rfl)) rfl)
theorem lk_Ws_75 : Cond.methodLink "HiddenRows$WaySums" 75 ⟨"HiddenRows$WaySums", "segment", "(III)J"⟩ ∈ ab_tbl := (ab_mem (List.mem_append_right _ (List.mem_of_getElem? (i := 389) rfl)) rfl)
theorem lk_Ws_81 : Cond.methodLink "HiddenRows$WaySums" 81 ⟨"HiddenRows$WaySums", "showPlaces", "()V"⟩ ∈ ab_tbl := (ab_mem (List.mem_append_right _ (List.mem_of_getElem? (i := 369) rfl)) rfl)
theorem lk_Ws_84 : Cond.methodLink "HiddenRows$WaySums" 84 ⟨"HiddenRows$WaySums", "sumFromBehind", "()V"⟩ ∈ ab_tbl := (ab_mem (List.mem_append_right _ (List.mem_of_getElem? (i := 381) rfl)) rfl)
theorem lk_Ws_87 : Cond.methodLink "HiddenRows$WaySums" 87 ⟨"HiddenRows$WaySums", "sumFromAhead", "()V"⟩ ∈ ab_tbl := (ab_mem (List.mem_append_right _ (List.mem_of_getElem? (i := 397) rfl)) rfl)
theorem lk_Ws_90 : Cond.methodLink "HiddenRows$WaySums" 90 ⟨"HiddenRows$WaySums", "showOf", "(II)J"⟩ ∈ ab_tbl := (ab_mem (List.mem_append_right _ (List.mem_of_getElem? (i := 373) rfl)) rfl)
theorem lk_Ws_101 : Cond.methodLink "HiddenRows$WaySums" 101 ⟨"HiddenRows$WaySums", "movedOutOf", "(II)J"⟩ ∈ ab_tbl := (ab_mem (List.mem_append_right _ (List.mem_of_getElem? (i := 393) rfl)) rfl)
theorem lk_Ws_104 : Cond.methodLink "HiddenRows$WaySums" 104 ⟨"HiddenRows$WaySums", "movedInto", "(II)J"⟩ ∈ ab_tbl := (ab_mem (List.mem_append_right _ (List.mem_of_getElem? (i := 401) rfl)) rfl)
theorem lk_Ws_107 : Cond.methodLink "HiddenRows$WaySums" 107 ⟨"HiddenRows$WaySums", "endedBefore", "(II)J"⟩ ∈ ab_tbl := (ab_mem (List.mem_append_right _ (List.mem_of_getElem? (i := 405) rfl)) rfl)
theorem lk_La_9 : Cond.methodLink "HiddenRowsLaw" 9 ⟨"HiddenRows", "<init>", "()V"⟩ ∈ ab_tbl := (ab_mem (List.mem_append_right _ (List.mem_of_getElem? (i := 14) rfl)) rfl)
set_option maxRecDepth 20000 in
theorem lk_La_12 : Cond.methodLink "HiddenRowsLaw" 12 ⟨"HiddenRowsModel", "<init>", "()V"⟩ ∈ ab_tbl := (ab_mem (List.mem_append_right _ (List.mem_of_getElem? (i := 633) rfl)) rfl)
theorem lk_La_13 : Cond.methodLink "HiddenRowsLaw" 13 ⟨"HiddenRows", "state", "()I"⟩ ∈ ab_tbl := (ab_mem (List.mem_append_right _ (List.mem_of_getElem? (i := 287) rfl)) rfl)
set_option maxRecDepth 20000 in
theorem lk_La_17 : Cond.methodLink "HiddenRowsLaw" 17 ⟨"HiddenRowsModel", "state", "()I"⟩ ∈ ab_tbl := (ab_mem (List.mem_append_right _ (List.mem_of_getElem? (i := 719) rfl)) rfl)
theorem lk_La_18 : Cond.methodLink "HiddenRowsLaw" 18 ⟨"HiddenRows", "weight", "(III)I"⟩ ∈ ab_tbl := (ab_mem (List.mem_append_right _ (List.mem_of_getElem? (i := 299) rfl)) rfl)
set_option maxRecDepth 20000 in
theorem lk_La_22 : Cond.methodLink "HiddenRowsLaw" 22 ⟨"HiddenRowsModel", "weight", "(III)I"⟩ ∈ ab_tbl := (ab_mem (List.mem_append_right _ (List.mem_of_getElem? (i := 727) rfl)) rfl)
theorem lk_La_23 : Cond.methodLink "HiddenRowsLaw" 23 ⟨"HiddenRows", "move", "(III)I"⟩ ∈ ab_tbl := (ab_mem (List.mem_append_right _ (List.mem_of_getElem? (i := 310) rfl)) rfl)
set_option maxRecDepth 20000 in
theorem lk_La_26 : Cond.methodLink "HiddenRowsLaw" 26 ⟨"HiddenRowsModel", "move", "(III)I"⟩ ∈ ab_tbl := (ab_mem (List.mem_append_right _ (List.mem_of_getElem? (i := 738) rfl)) rfl)
theorem lk_La_27 : Cond.methodLink "HiddenRowsLaw" 27 ⟨"HiddenRows", "kind", "()I"⟩ ∈ ab_tbl := (ab_mem (List.mem_append_right _ (List.mem_of_getElem? (i := 314) rfl)) rfl)
set_option maxRecDepth 20000 in
theorem lk_La_30 : Cond.methodLink "HiddenRowsLaw" 30 ⟨"HiddenRowsModel", "kind", "()I"⟩ ∈ ab_tbl := (ab_mem (List.mem_append_right _ (List.mem_of_getElem? (i := 742) rfl)) rfl)
theorem lk_La_31 : Cond.methodLink "HiddenRowsLaw" 31 ⟨"HiddenRows", "rule", "(IIII)I"⟩ ∈ ab_tbl := (ab_mem (List.mem_append_right _ (List.mem_of_getElem? (i := 322) rfl)) rfl)
set_option maxRecDepth 20000 in
theorem lk_La_35 : Cond.methodLink "HiddenRowsLaw" 35 ⟨"HiddenRowsModel", "rule", "(IIII)I"⟩ ∈ ab_tbl := (ab_mem (List.mem_append_right _ (List.mem_of_getElem? (i := 746) rfl)) rfl)
theorem lk_La_36 : Cond.methodLink "HiddenRowsLaw" 36 ⟨"HiddenRows", "leaf", "(III)I"⟩ ∈ ab_tbl := (ab_mem (List.mem_append_right _ (List.mem_of_getElem? (i := 333) rfl)) rfl)
set_option maxRecDepth 20000 in
theorem lk_La_39 : Cond.methodLink "HiddenRowsLaw" 39 ⟨"HiddenRowsModel", "leaf", "(III)I"⟩ ∈ ab_tbl := (ab_mem (List.mem_append_right _ (List.mem_of_getElem? (i := 754) rfl)) rfl)
theorem lk_La_40 : Cond.methodLink "HiddenRowsLaw" 40 ⟨"HiddenRows", "sign", "(I)I"⟩ ∈ ab_tbl := (ab_mem (List.mem_append_right _ (List.mem_of_getElem? (i := 337) rfl)) rfl)
set_option maxRecDepth 20000 in
theorem lk_La_44 : Cond.methodLink "HiddenRowsLaw" 44 ⟨"HiddenRowsModel", "sign", "(I)I"⟩ ∈ ab_tbl := (ab_mem (List.mem_append_right _ (List.mem_of_getElem? (i := 758) rfl)) rfl)
theorem lk_La_45 : Cond.methodLink "HiddenRowsLaw" 45 ⟨"HiddenRows", "clear", "()I"⟩ ∈ ab_tbl := (ab_mem (List.mem_append_right _ (List.mem_of_getElem? (i := 345) rfl)) rfl)
set_option maxRecDepth 20000 in
theorem lk_La_48 : Cond.methodLink "HiddenRowsLaw" 48 ⟨"HiddenRowsModel", "clear", "()I"⟩ ∈ ab_tbl := (ab_mem (List.mem_append_right _ (List.mem_of_getElem? (i := 762) rfl)) rfl)
theorem lk_La_49 : Cond.methodLink "HiddenRowsLaw" 49 ⟨"HiddenRows", "hold", "(II)I"⟩ ∈ ab_tbl := (ab_mem (List.mem_append_right _ (List.mem_of_getElem? (i := 349) rfl)) rfl)
set_option maxRecDepth 20000 in
theorem lk_La_53 : Cond.methodLink "HiddenRowsLaw" 53 ⟨"HiddenRowsModel", "hold", "(II)I"⟩ ∈ ab_tbl := (ab_mem (List.mem_append_right _ (List.mem_of_getElem? (i := 766) rfl)) rfl)
theorem lk_La_54 : Cond.methodLink "HiddenRowsLaw" 54 ⟨"HiddenRows", "total", "()J"⟩ ∈ ab_tbl := (ab_mem (List.mem_append_right _ (List.mem_of_getElem? (i := 357) rfl)) rfl)
set_option maxRecDepth 20000 in
theorem lk_La_58 : Cond.methodLink "HiddenRowsLaw" 58 ⟨"HiddenRowsModel", "total", "()J"⟩ ∈ ab_tbl := (ab_mem (List.mem_append_right _ (List.mem_of_getElem? (i := 774) rfl)) rfl)
theorem lk_La_59 : Cond.methodLink "HiddenRowsLaw" 59 ⟨"HiddenRows", "ways", "()I"⟩ ∈ ab_tbl := (ab_mem (List.mem_append_right _ (List.mem_of_getElem? (i := 409) rfl)) rfl)
set_option maxRecDepth 20000 in
theorem lk_La_62 : Cond.methodLink "HiddenRowsLaw" 62 ⟨"HiddenRowsModel", "ways", "()I"⟩ ∈ ab_tbl := (ab_mem (List.mem_append_right _ (List.mem_of_getElem? (i := 810) rfl)) rfl)
theorem lk_La_63 : Cond.methodLink "HiddenRowsLaw" 63 ⟨"HiddenRows", "share", "(III)J"⟩ ∈ ab_tbl := (ab_mem (List.mem_append_right _ (List.mem_of_getElem? (i := 413) rfl)) rfl)
set_option maxRecDepth 20000 in
theorem lk_La_67 : Cond.methodLink "HiddenRowsLaw" 67 ⟨"HiddenRowsModel", "share", "(III)J"⟩ ∈ ab_tbl := (ab_mem (List.mem_append_right _ (List.mem_of_getElem? (i := 814) rfl)) rfl)
theorem lk_La_68 : Cond.methodLink "HiddenRowsLaw" 68 ⟨"HiddenRows", "begin", "(III)J"⟩ ∈ ab_tbl := (ab_mem (List.mem_append_right _ (List.mem_of_getElem? (i := 436) rfl)) rfl)
set_option maxRecDepth 20000 in
theorem lk_La_71 : Cond.methodLink "HiddenRowsLaw" 71 ⟨"HiddenRowsModel", "begin", "(III)J"⟩ ∈ ab_tbl := (ab_mem (List.mem_append_right _ (List.mem_of_getElem? (i := 827) rfl)) rfl)
theorem lk_La_72 : Cond.methodLink "HiddenRowsLaw" 72 ⟨"HiddenRows", "pair", "(IIII)J"⟩ ∈ ab_tbl := (ab_mem (List.mem_append_right _ (List.mem_of_getElem? (i := 444) rfl)) rfl)
set_option maxRecDepth 20000 in
theorem lk_La_76 : Cond.methodLink "HiddenRowsLaw" 76 ⟨"HiddenRowsModel", "pair", "(IIII)J"⟩ ∈ ab_tbl := (ab_mem (List.mem_append_right _ (List.mem_of_getElem? (i := 831) rfl)) rfl)
set_option maxRecDepth 20000 in
theorem lk_La_77 : Cond.methodLink "HiddenRowsLaw" 77 ⟨"HiddenRows", "top", "(I)I"⟩ ∈ ab_tbl := (ab_mem (List.mem_append_right _ (List.mem_of_getElem? (i := 452) rfl)) rfl)
set_option maxRecDepth 20000 in
theorem lk_La_80 : Cond.methodLink "HiddenRowsLaw" 80 ⟨"HiddenRowsModel", "top", "(I)I"⟩ ∈ ab_tbl := (ab_mem (List.mem_append_right _ (List.mem_of_getElem? (i := 835) rfl)) rfl)
set_option maxRecDepth 20000 in
theorem lk_La_81 : Cond.methodLink "HiddenRowsLaw" 81 ⟨"HiddenRows", "best", "(I)J"⟩ ∈ ab_tbl := (ab_mem (List.mem_append_right _ (List.mem_of_getElem? (i := 456) rfl)) rfl)
set_option maxRecDepth 20000 in
theorem lk_La_85 : Cond.methodLink "HiddenRowsLaw" 85 ⟨"HiddenRowsModel", "best", "(I)J"⟩ ∈ ab_tbl := (ab_mem (List.mem_append_right _ (List.mem_of_getElem? (i := 839) rfl)) rfl)
set_option maxRecDepth 20000 in
theorem lk_La_86 : Cond.methodLink "HiddenRowsLaw" 86 ⟨"HiddenRows", "bestAt", "(II)I"⟩ ∈ ab_tbl := (ab_mem (List.mem_append_right _ (List.mem_of_getElem? (i := 496) rfl)) rfl)
set_option maxRecDepth 20000 in
theorem lk_La_89 : Cond.methodLink "HiddenRowsLaw" 89 ⟨"HiddenRowsModel", "bestAt", "(II)I"⟩ ∈ ab_tbl := (ab_mem (List.mem_append_right _ (List.mem_of_getElem? (i := 843) rfl)) rfl)
set_option maxRecDepth 20000 in
theorem lk_La_90 : Cond.methodLink "HiddenRowsLaw" 90 ⟨"HiddenRows", "drawn", "(I)J"⟩ ∈ ab_tbl := (ab_mem (List.mem_append_right _ (List.mem_of_getElem? (i := 504) rfl)) rfl)
set_option maxRecDepth 20000 in
theorem lk_La_93 : Cond.methodLink "HiddenRowsLaw" 93 ⟨"HiddenRowsModel", "drawn", "(I)J"⟩ ∈ ab_tbl := (ab_mem (List.mem_append_right _ (List.mem_of_getElem? (i := 847) rfl)) rfl)
set_option maxRecDepth 20000 in
theorem lk_La_94 : Cond.methodLink "HiddenRowsLaw" 94 ⟨"HiddenRows", "drawnAt", "(I)I"⟩ ∈ ab_tbl := (ab_mem (List.mem_append_right _ (List.mem_of_getElem? (i := 541) rfl)) rfl)
set_option maxRecDepth 20000 in
theorem lk_La_97 : Cond.methodLink "HiddenRowsLaw" 97 ⟨"HiddenRowsModel", "drawnAt", "(I)I"⟩ ∈ ab_tbl := (ab_mem (List.mem_append_right _ (List.mem_of_getElem? (i := 854) rfl)) rfl)
set_option maxRecDepth 20000 in
theorem lk_La_98 : Cond.methodLink "HiddenRowsLaw" 98 ⟨"HiddenRows", "trees", "(I)J"⟩ ∈ ab_tbl := (ab_mem (List.mem_append_right _ (List.mem_of_getElem? (i := 545) rfl)) rfl)
set_option maxRecDepth 20000 in
theorem lk_La_101 : Cond.methodLink "HiddenRowsLaw" 101 ⟨"HiddenRowsModel", "trees", "(I)J"⟩ ∈ ab_tbl := (ab_mem (List.mem_append_right _ (List.mem_of_getElem? (i := 858) rfl)) rfl)
set_option maxRecDepth 20000 in
theorem lk_La_102 : Cond.methodLink "HiddenRowsLaw" 102 ⟨"HiddenRows", "treeCount", "(I)J"⟩ ∈ ab_tbl := (ab_mem (List.mem_append_right _ (List.mem_of_getElem? (i := 579) rfl)) rfl)
set_option maxRecDepth 20000 in
theorem lk_La_105 : Cond.methodLink "HiddenRowsLaw" 105 ⟨"HiddenRowsModel", "treeCount", "(I)J"⟩ ∈ ab_tbl := (ab_mem (List.mem_append_right _ (List.mem_of_getElem? (i := 881) rfl)) rfl)
set_option maxRecDepth 20000 in
theorem lk_La_106 : Cond.methodLink "HiddenRowsLaw" 106 ⟨"HiddenRows", "treeBest", "(I)J"⟩ ∈ ab_tbl := (ab_mem (List.mem_append_right _ (List.mem_of_getElem? (i := 587) rfl)) rfl)
set_option maxRecDepth 20000 in
theorem lk_La_109 : Cond.methodLink "HiddenRowsLaw" 109 ⟨"HiddenRowsModel", "treeBest", "(I)J"⟩ ∈ ab_tbl := (ab_mem (List.mem_append_right _ (List.mem_of_getElem? (i := 885) rfl)) rfl)
set_option maxRecDepth 20000 in
theorem lk_La_110 : Cond.methodLink "HiddenRowsLaw" 110 ⟨"HiddenRows", "treeAt", "(II)I"⟩ ∈ ab_tbl := (ab_mem (List.mem_append_right _ (List.mem_of_getElem? (i := 595) rfl)) rfl)
set_option maxRecDepth 20000 in
theorem lk_La_113 : Cond.methodLink "HiddenRowsLaw" 113 ⟨"HiddenRowsModel", "treeAt", "(II)I"⟩ ∈ ab_tbl := (ab_mem (List.mem_append_right _ (List.mem_of_getElem? (i := 890) rfl)) rfl)
set_option maxRecDepth 20000 in
theorem lk_La_114 : Cond.methodLink "HiddenRowsLaw" 114 ⟨"HiddenRows", "span", "(IIIII)J"⟩ ∈ ab_tbl := (ab_mem (List.mem_append_right _ (List.mem_of_getElem? (i := 615) rfl)) rfl)
set_option maxRecDepth 20000 in
theorem lk_La_118 : Cond.methodLink "HiddenRowsLaw" 118 ⟨"HiddenRowsModel", "span", "(IIIII)J"⟩ ∈ ab_tbl := (ab_mem (List.mem_append_right _ (List.mem_of_getElem? (i := 898) rfl)) rfl)
set_option maxRecDepth 20000 in
theorem lk_Mo_1 : Cond.methodLink "HiddenRowsModel" 1 ⟨"java/lang/Object", "<init>", "()V"⟩ ∈ ab_tbl := (ab_mem (List.mem_append_right _ (List.mem_of_getElem? (i := 636) rfl)) rfl)
set_option maxRecDepth 20000 in
theorem lk_Mo_85 : Cond.methodLink "HiddenRowsModel" 85 ⟨"HiddenRowsModel", "change", "()V"⟩ ∈ ab_tbl := (ab_mem (List.mem_append_right _ (List.mem_of_getElem? (i := 723) rfl)) rfl)
set_option maxRecDepth 20000 in
theorem lk_Mo_88 : Cond.methodLink "HiddenRowsModel" 88 ⟨"HiddenRowsModel", "isState", "(I)Z"⟩ ∈ ab_tbl := (ab_mem (List.mem_append_right _ (List.mem_of_getElem? (i := 731) rfl)) rfl)
set_option maxRecDepth 20000 in
theorem lk_Mo_92 : Cond.methodLink "HiddenRowsModel" 92 ⟨"HiddenRowsModel", "isWeight", "(I)Z"⟩ ∈ ab_tbl := (ab_mem (List.mem_append_right _ (List.mem_of_getElem? (i := 735) rfl)) rfl)
set_option maxRecDepth 20000 in
theorem lk_Mo_95 : Cond.methodLink "HiddenRowsModel" 95 ⟨"HiddenRowsModel", "isKind", "(I)Z"⟩ ∈ ab_tbl := (ab_mem (List.mem_append_right _ (List.mem_of_getElem? (i := 750) rfl)) rfl)
set_option maxRecDepth 20000 in
theorem lk_Mo_98 : Cond.methodLink "HiddenRowsModel" 98 ⟨"HiddenRowsModel", "isPlace", "(I)Z"⟩ ∈ ab_tbl := (ab_mem (List.mem_append_right _ (List.mem_of_getElem? (i := 770) rfl)) rfl)
set_option maxRecDepth 20000 in
theorem lk_Mo_101 : Cond.methodLink "HiddenRowsModel" 101 ⟨"HiddenRowsModel", "stay", "(I)I"⟩ ∈ ab_tbl := (ab_mem (List.mem_append_right _ (List.mem_of_getElem? (i := 790) rfl)) rfl)
set_option maxRecDepth 20000 in
theorem lk_Mo_105 : Cond.methodLink "HiddenRowsModel" 105 ⟨"HiddenRowsModel", "show", "(II)I"⟩ ∈ ab_tbl := (ab_mem (List.mem_append_right _ (List.mem_of_getElem? (i := 798) rfl)) rfl)
set_option maxRecDepth 20000 in
theorem lk_Mo_109 : Cond.methodLink "HiddenRowsModel" 109 ⟨"HiddenRowsModel", "canBe", "(II)Z"⟩ ∈ ab_tbl := (ab_mem (List.mem_append_right _ (List.mem_of_getElem? (i := 786) rfl)) rfl)
set_option maxRecDepth 20000 in
theorem lk_Mo_123 : Cond.methodLink "HiddenRowsModel" 123 ⟨"HiddenRowsModel", "next", "(Z)Z"⟩ ∈ ab_tbl := (ab_mem (List.mem_append_right _ (List.mem_of_getElem? (i := 782) rfl)) rfl)
set_option maxRecDepth 20000 in
theorem lk_Mo_127 : Cond.methodLink "HiddenRowsModel" 127 ⟨"HiddenRowsModel", "weightOf", "()J"⟩ ∈ ab_tbl := (ab_mem (List.mem_append_right _ (List.mem_of_getElem? (i := 794) rfl)) rfl)
set_option maxRecDepth 20000 in
theorem lk_Mo_131 : Cond.methodLink "HiddenRowsModel" 131 ⟨"HiddenRowsModel", "add", "(J)V"⟩ ∈ ab_tbl := (ab_mem (List.mem_append_right _ (List.mem_of_getElem? (i := 802) rfl)) rfl)
set_option maxRecDepth 20000 in
theorem lk_Mo_135 : Cond.methodLink "HiddenRowsModel" 135 ⟨"HiddenRowsModel", "keep", "(J)V"⟩ ∈ ab_tbl := (ab_mem (List.mem_append_right _ (List.mem_of_getElem? (i := 806) rfl)) rfl)
set_option maxRecDepth 20000 in
theorem lk_Mo_138 : Cond.methodLink "HiddenRowsModel" 138 ⟨"HiddenRowsModel", "know", "()V"⟩ ∈ ab_tbl := (ab_mem (List.mem_append_right _ (List.mem_of_getElem? (i := 778) rfl)) rfl)
set_option maxRecDepth 20000 in
theorem lk_Mo_141 : Cond.methodLink "HiddenRowsModel" 141 ⟨"HiddenRowsModel", "common", "(JJ)J"⟩ ∈ ab_tbl := (ab_mem (List.mem_append_right _ (List.mem_of_getElem? (i := 824) rfl)) rfl)
set_option maxRecDepth 20000 in
theorem lk_Mo_151 : Cond.methodLink "HiddenRowsModel" 151 ⟨"HiddenRowsModel", "lowest", "(JJI)J"⟩ ∈ ab_tbl := (ab_mem (List.mem_append_right _ (List.mem_of_getElem? (i := 821) rfl)) rfl)
set_option maxRecDepth 20000 in
theorem lk_Mo_159 : Cond.methodLink "HiddenRowsModel" 159 ⟨"HiddenRowsModel", "findSpan", "(III)V"⟩ ∈ ab_tbl := (ab_mem (List.mem_append_right _ (List.mem_of_getElem? (i := 866) rfl)) rfl)
set_option maxRecDepth 20000 in
theorem lk_Mo_163 : Cond.methodLink "HiddenRowsModel" 163 ⟨"HiddenRowsModel", "at", "(III)I"⟩ ∈ ab_tbl := (ab_mem (List.mem_append_right _ (List.mem_of_getElem? (i := 870) rfl)) rfl)
set_option maxRecDepth 20000 in
theorem lk_Mo_167 : Cond.methodLink "HiddenRowsModel" 167 ⟨"HiddenRowsModel", "leafOf", "(II)J"⟩ ∈ ab_tbl := (ab_mem (List.mem_append_right _ (List.mem_of_getElem? (i := 873) rfl)) rfl)
set_option maxRecDepth 20000 in
theorem lk_Mo_171 : Cond.methodLink "HiddenRowsModel" 171 ⟨"HiddenRowsModel", "findTrees", "(III)V"⟩ ∈ ab_tbl := (ab_mem (List.mem_append_right _ (List.mem_of_getElem? (i := 862) rfl)) rfl)
set_option maxRecDepth 20000 in
theorem lk_Mo_174 : Cond.methodLink "HiddenRowsModel" 174 ⟨"HiddenRowsModel", "whole", "(I)I"⟩ ∈ ab_tbl := (ab_mem (List.mem_append_right _ (List.mem_of_getElem? (i := 877) rfl)) rfl)
set_option maxRecDepth 20000 in
theorem lk_Mo_177 : Cond.methodLink "HiddenRowsModel" 177 ⟨"HiddenRowsModel", "trees", "(I)J"⟩ ∈ ab_tbl := (ab_mem (List.mem_append_right _ (List.mem_of_getElem? (i := 889) rfl)) rfl)
set_option maxRecDepth 20000 in
theorem lk_Mo_181 : Cond.methodLink "HiddenRowsModel" 181 ⟨"HiddenRowsModel", "leastOf", "(III)I"⟩ ∈ ab_tbl := (ab_mem (List.mem_append_right _ (List.mem_of_getElem? (i := 894) rfl)) rfl)
theorem in_H : Cond.initialized "HiddenRows" ∈ ab_tbl := (ab_mem (List.mem_append_right _ (List.mem_of_getElem? (i := 1) rfl)) rfl)
theorem it_H : Cond.instantiable "HiddenRows" 8 ∈ ab_tbl := (ab_mem (List.mem_append_right _ (List.mem_of_getElem? (i := 13) rfl)) rfl)
theorem in_Ro : Cond.initialized "HiddenRows$Row" ∈ ab_tbl := (ab_mem (List.mem_append_right _ (List.mem_of_getElem? (i := 2) rfl)) rfl)
theorem it_Ro : Cond.instantiable "HiddenRows$Row" 3 ∈ ab_tbl := (ab_mem (List.mem_append_right _ (List.mem_of_getElem? (i := 21) rfl)) rfl)
theorem in_St : Cond.initialized "HiddenRows$States" ∈ ab_tbl := (ab_mem (List.mem_append_right _ (List.mem_of_getElem? (i := 3) rfl)) rfl)
theorem it_St : Cond.instantiable "HiddenRows$States" 3 ∈ ab_tbl := (ab_mem (List.mem_append_right _ (List.mem_of_getElem? (i := 47) rfl)) rfl)
theorem in_Ws : Cond.initialized "HiddenRows$WaySums" ∈ ab_tbl := (ab_mem (List.mem_append_right _ (List.mem_of_getElem? (i := 4) rfl)) rfl)
theorem it_Ws : Cond.instantiable "HiddenRows$WaySums" 9 ∈ ab_tbl := (ab_mem (List.mem_append_right _ (List.mem_of_getElem? (i := 77) rfl)) rfl)
theorem in_Bw : Cond.initialized "HiddenRows$BestWays" ∈ ab_tbl := (ab_mem (List.mem_append_right _ (List.mem_of_getElem? (i := 5) rfl)) rfl)
theorem it_Bw : Cond.instantiable "HiddenRows$BestWays" 6 ∈ ab_tbl := (ab_mem (List.mem_append_right _ (List.mem_of_getElem? (i := 117) rfl)) rfl)
theorem in_Wl : Cond.initialized "HiddenRows$WayList" ∈ ab_tbl := (ab_mem (List.mem_append_right _ (List.mem_of_getElem? (i := 6) rfl)) rfl)
theorem it_Wl : Cond.instantiable "HiddenRows$WayList" 3 ∈ ab_tbl := (ab_mem (List.mem_append_right _ (List.mem_of_getElem? (i := 124) rfl)) rfl)
theorem in_Dr : Cond.initialized "HiddenRows$Drawing" ∈ ab_tbl := (ab_mem (List.mem_append_right _ (List.mem_of_getElem? (i := 7) rfl)) rfl)
theorem it_Dr : Cond.instantiable "HiddenRows$Drawing" 9 ∈ ab_tbl := (ab_mem (List.mem_append_right _ (List.mem_of_getElem? (i := 166) rfl)) rfl)
theorem in_Ki : Cond.initialized "HiddenRows$Kinds" ∈ ab_tbl := (ab_mem (List.mem_append_right _ (List.mem_of_getElem? (i := 8) rfl)) rfl)
theorem it_Ki : Cond.instantiable "HiddenRows$Kinds" 3 ∈ ab_tbl := (ab_mem (List.mem_append_right _ (List.mem_of_getElem? (i := 202) rfl)) rfl)
theorem in_Tt : Cond.initialized "HiddenRows$TreeTables" ∈ ab_tbl := (ab_mem (List.mem_append_right _ (List.mem_of_getElem? (i := 9) rfl)) rfl)
theorem it_Tt : Cond.instantiable "HiddenRows$TreeTables" 10 ∈ ab_tbl := (ab_mem (List.mem_append_right _ (List.mem_of_getElem? (i := 224) rfl)) rfl)
theorem in_Mo : Cond.initialized "HiddenRowsModel" ∈ ab_tbl := (ab_mem (List.mem_append_right _ (List.mem_of_getElem? (i := 10) rfl)) rfl)
set_option maxRecDepth 20000 in
theorem it_Mo : Cond.instantiable "HiddenRowsModel" 27 ∈ ab_tbl := (ab_mem (List.mem_append_right _ (List.mem_of_getElem? (i := 632) rfl)) rfl)
theorem ac_int : Cond.arrayClass .int ∈ ab_tbl := (ab_mem (List.mem_append_right _ (List.mem_of_getElem? (i := 45) rfl)) rfl)
theorem ac_long : Cond.arrayClass .long ∈ ab_tbl := (ab_mem (List.mem_append_right _ (List.mem_of_getElem? (i := 115) rfl)) rfl)
theorem im_obj : Cond.instanceMethod objectInit ∈ ab_tbl := (ab_mem (List.mem_append_right _ (List.mem_of_getElem? (i := 18) rfl)) rfl)
theorem co_obj : Cond.code objectInit ⟨#[0xb1]⟩ 1 none ∈ ab_tbl := (ab_mem (List.mem_append_right _ (List.mem_of_getElem? (i := 19) rfl)) rfl)
theorem fb_H_init : ab_B y_H_init b_H_init 1 none 0 := ⟨(ab_mem (List.mem_append_right _ (List.mem_of_getElem? (i := 16) rfl)) rfl), in_H, by decide +kernel⟩
theorem im_H_init : Cond.instanceMethod y_H_init ∈ ab_tbl := (ab_mem (List.mem_append_right _ (List.mem_of_getElem? (i := 15) rfl)) rfl)
theorem fb_Ro_init : ab_B y_Ro_init b_Ro_init 1 none 0 := ⟨(ab_mem (List.mem_append_right _ (List.mem_of_getElem? (i := 24) rfl)) rfl), in_Ro, by decide +kernel⟩
theorem im_Ro_init : Cond.instanceMethod y_Ro_init ∈ ab_tbl := (ab_mem (List.mem_append_right _ (List.mem_of_getElem? (i := 23) rfl)) rfl)
theorem fb_St_init : ab_B y_St_init b_St_init 1 none 0 := ⟨(ab_mem (List.mem_append_right _ (List.mem_of_getElem? (i := 50) rfl)) rfl), in_St, by decide +kernel⟩
theorem im_St_init : Cond.instanceMethod y_St_init ∈ ab_tbl := (ab_mem (List.mem_append_right _ (List.mem_of_getElem? (i := 49) rfl)) rfl)
theorem fb_Ws_init : ab_B y_Ws_init b_Ws_init 4 none 3 := ⟨(ab_mem (List.mem_append_right _ (List.mem_of_getElem? (i := 81) rfl)) rfl), in_Ws, by decide +kernel⟩
theorem im_Ws_init : Cond.instanceMethod y_Ws_init ∈ ab_tbl := (ab_mem (List.mem_append_right _ (List.mem_of_getElem? (i := 80) rfl)) rfl)
theorem fb_Bw_init : ab_B y_Bw_init b_Bw_init 5 none 3 := ⟨(ab_mem (List.mem_append_right _ (List.mem_of_getElem? (i := 120) rfl)) rfl), in_Bw, by decide +kernel⟩
theorem im_Bw_init : Cond.instanceMethod y_Bw_init ∈ ab_tbl := (ab_mem (List.mem_append_right _ (List.mem_of_getElem? (i := 119) rfl)) rfl)
theorem fb_Wl_init : ab_B y_Wl_init b_Wl_init 1 none 0 := ⟨(ab_mem (List.mem_append_right _ (List.mem_of_getElem? (i := 127) rfl)) rfl), in_Wl, by decide +kernel⟩
theorem im_Wl_init : Cond.instanceMethod y_Wl_init ∈ ab_tbl := (ab_mem (List.mem_append_right _ (List.mem_of_getElem? (i := 126) rfl)) rfl)
theorem fb_Dr_init : ab_B y_Dr_init b_Dr_init 4 none 3 := ⟨(ab_mem (List.mem_append_right _ (List.mem_of_getElem? (i := 169) rfl)) rfl), in_Dr, by decide +kernel⟩
theorem im_Dr_init : Cond.instanceMethod y_Dr_init ∈ ab_tbl := (ab_mem (List.mem_append_right _ (List.mem_of_getElem? (i := 168) rfl)) rfl)
theorem fb_Ki_init : ab_B y_Ki_init b_Ki_init 1 none 0 := ⟨(ab_mem (List.mem_append_right _ (List.mem_of_getElem? (i := 205) rfl)) rfl), in_Ki, by decide +kernel⟩
theorem im_Ki_init : Cond.instanceMethod y_Ki_init ∈ ab_tbl := (ab_mem (List.mem_append_right _ (List.mem_of_getElem? (i := 204) rfl)) rfl)
theorem fb_Tt_init : ab_B y_Tt_init b_Tt_init 3 none 2 := ⟨(ab_mem (List.mem_append_right _ (List.mem_of_getElem? (i := 227) rfl)) rfl), in_Tt, by decide +kernel⟩
theorem im_Tt_init : Cond.instanceMethod y_Tt_init ∈ ab_tbl := (ab_mem (List.mem_append_right _ (List.mem_of_getElem? (i := 226) rfl)) rfl)
theorem fb_H_state : ab_B y_H_state b_H_state 1 (some .int) 0 := ⟨(ab_mem (List.mem_append_right _ (List.mem_of_getElem? (i := 290) rfl)) rfl), in_H, by decide +kernel⟩
theorem im_H_state : Cond.instanceMethod y_H_state ∈ ab_tbl := (ab_mem (List.mem_append_right _ (List.mem_of_getElem? (i := 288) rfl)) rfl)
theorem se_H_state : Cond.selects "HiddenRows" y_H_state y_H_state ∈ ab_tbl := (ab_mem (List.mem_append_right _ (List.mem_of_getElem? (i := 289) rfl)) rfl)
theorem fb_H_forgetWays : ab_B y_H_forgetWays b_H_forgetWays 1 none 0 := ⟨(ab_mem (List.mem_append_right _ (List.mem_of_getElem? (i := 294) rfl)) rfl), in_H, by decide +kernel⟩
theorem im_H_forgetWays : Cond.instanceMethod y_H_forgetWays ∈ ab_tbl := (ab_mem (List.mem_append_right _ (List.mem_of_getElem? (i := 293) rfl)) rfl)
theorem se_H_forgetWays : Cond.selects "HiddenRows" y_H_forgetWays y_H_forgetWays ∈ ab_tbl := (ab_mem (List.mem_append_left _ (List.mem_of_getElem? (i := 0) rfl)) rfl)
theorem fb_St_addOne : ab_B y_St_addOne b_St_addOne 1 (some .int) 0 := ⟨(ab_mem (List.mem_append_right _ (List.mem_of_getElem? (i := 298) rfl)) rfl), in_St, by decide +kernel⟩
theorem im_St_addOne : Cond.instanceMethod y_St_addOne ∈ ab_tbl := (ab_mem (List.mem_append_right _ (List.mem_of_getElem? (i := 296) rfl)) rfl)
theorem se_St_addOne : Cond.selects "HiddenRows$States" y_St_addOne y_St_addOne ∈ ab_tbl := (ab_mem (List.mem_append_right _ (List.mem_of_getElem? (i := 297) rfl)) rfl)
theorem fb_H_weight : ab_B y_H_weight b_H_weight 5 (some .int) 3 := ⟨(ab_mem (List.mem_append_right _ (List.mem_of_getElem? (i := 302) rfl)) rfl), in_H, by decide +kernel⟩
theorem im_H_weight : Cond.instanceMethod y_H_weight ∈ ab_tbl := (ab_mem (List.mem_append_right _ (List.mem_of_getElem? (i := 300) rfl)) rfl)
theorem se_H_weight : Cond.selects "HiddenRows" y_H_weight y_H_weight ∈ ab_tbl := (ab_mem (List.mem_append_right _ (List.mem_of_getElem? (i := 301) rfl)) rfl)
theorem fb_St_has : ab_B y_St_has b_St_has 2 (some .boolean) 1 := ⟨(ab_mem (List.mem_append_right _ (List.mem_of_getElem? (i := 306) rfl)) rfl), in_St, by decide +kernel⟩
theorem im_St_has : Cond.instanceMethod y_St_has ∈ ab_tbl := (ab_mem (List.mem_append_right _ (List.mem_of_getElem? (i := 304) rfl)) rfl)
theorem se_St_has : Cond.selects "HiddenRows$States" y_St_has y_St_has ∈ ab_tbl := (ab_mem (List.mem_append_right _ (List.mem_of_getElem? (i := 305) rfl)) rfl)
theorem fb_H_isWeight : ab_B y_H_isWeight b_H_isWeight 1 (some .boolean) 1 := ⟨(ab_mem (List.mem_append_right _ (List.mem_of_getElem? (i := 309) rfl)) rfl), in_H, by decide +kernel⟩
theorem sm_H_isWeight : Cond.static y_H_isWeight ∈ ab_tbl := (ab_mem (List.mem_append_right _ (List.mem_of_getElem? (i := 308) rfl)) rfl)
theorem fb_H_move : ab_B y_H_move b_H_move 5 (some .int) 3 := ⟨(ab_mem (List.mem_append_right _ (List.mem_of_getElem? (i := 313) rfl)) rfl), in_H, by decide +kernel⟩
theorem im_H_move : Cond.instanceMethod y_H_move ∈ ab_tbl := (ab_mem (List.mem_append_right _ (List.mem_of_getElem? (i := 311) rfl)) rfl)
theorem se_H_move : Cond.selects "HiddenRows" y_H_move y_H_move ∈ ab_tbl := (ab_mem (List.mem_append_right _ (List.mem_of_getElem? (i := 312) rfl)) rfl)
theorem fb_H_kind : ab_B y_H_kind b_H_kind 1 (some .int) 0 := ⟨(ab_mem (List.mem_append_right _ (List.mem_of_getElem? (i := 317) rfl)) rfl), in_H, by decide +kernel⟩
theorem im_H_kind : Cond.instanceMethod y_H_kind ∈ ab_tbl := (ab_mem (List.mem_append_right _ (List.mem_of_getElem? (i := 315) rfl)) rfl)
theorem se_H_kind : Cond.selects "HiddenRows" y_H_kind y_H_kind ∈ ab_tbl := (ab_mem (List.mem_append_right _ (List.mem_of_getElem? (i := 316) rfl)) rfl)
theorem fb_H_forgetTrees : ab_B y_H_forgetTrees b_H_forgetTrees 1 none 0 := ⟨(ab_mem (List.mem_append_right _ (List.mem_of_getElem? (i := 321) rfl)) rfl), in_H, by decide +kernel⟩
theorem im_H_forgetTrees : Cond.instanceMethod y_H_forgetTrees ∈ ab_tbl := (ab_mem (List.mem_append_right _ (List.mem_of_getElem? (i := 320) rfl)) rfl)
theorem se_H_forgetTrees : Cond.selects "HiddenRows" y_H_forgetTrees y_H_forgetTrees ∈ ab_tbl := (ab_mem (List.mem_append_left _ (List.mem_of_getElem? (i := 1) rfl)) rfl)
theorem fb_H_rule : ab_B y_H_rule b_H_rule 7 (some .int) 4 := ⟨(ab_mem (List.mem_append_right _ (List.mem_of_getElem? (i := 325) rfl)) rfl), in_H, by decide +kernel⟩
theorem im_H_rule : Cond.instanceMethod y_H_rule ∈ ab_tbl := (ab_mem (List.mem_append_right _ (List.mem_of_getElem? (i := 323) rfl)) rfl)
theorem se_H_rule : Cond.selects "HiddenRows" y_H_rule y_H_rule ∈ ab_tbl := (ab_mem (List.mem_append_right _ (List.mem_of_getElem? (i := 324) rfl)) rfl)
theorem fb_Ki_has : ab_B y_Ki_has b_Ki_has 2 (some .boolean) 1 := ⟨(ab_mem (List.mem_append_right _ (List.mem_of_getElem? (i := 329) rfl)) rfl), in_Ki, by decide +kernel⟩
theorem im_Ki_has : Cond.instanceMethod y_Ki_has ∈ ab_tbl := (ab_mem (List.mem_append_right _ (List.mem_of_getElem? (i := 327) rfl)) rfl)
theorem se_Ki_has : Cond.selects "HiddenRows$Kinds" y_Ki_has y_Ki_has ∈ ab_tbl := (ab_mem (List.mem_append_right _ (List.mem_of_getElem? (i := 328) rfl)) rfl)
theorem fb_Ki_parts : ab_B y_Ki_parts b_Ki_parts 2 (some .int) 2 := ⟨(ab_mem (List.mem_append_right _ (List.mem_of_getElem? (i := 332) rfl)) rfl), in_Ki, by decide +kernel⟩
theorem sm_Ki_parts : Cond.static y_Ki_parts ∈ ab_tbl := (ab_mem (List.mem_append_right _ (List.mem_of_getElem? (i := 331) rfl)) rfl)
theorem fb_H_leaf : ab_B y_H_leaf b_H_leaf 5 (some .int) 3 := ⟨(ab_mem (List.mem_append_right _ (List.mem_of_getElem? (i := 336) rfl)) rfl), in_H, by decide +kernel⟩
theorem im_H_leaf : Cond.instanceMethod y_H_leaf ∈ ab_tbl := (ab_mem (List.mem_append_right _ (List.mem_of_getElem? (i := 334) rfl)) rfl)
theorem se_H_leaf : Cond.selects "HiddenRows" y_H_leaf y_H_leaf ∈ ab_tbl := (ab_mem (List.mem_append_right _ (List.mem_of_getElem? (i := 335) rfl)) rfl)
theorem fb_H_sign : ab_B y_H_sign b_H_sign 2 (some .int) 1 := ⟨(ab_mem (List.mem_append_right _ (List.mem_of_getElem? (i := 340) rfl)) rfl), in_H, by decide +kernel⟩
theorem im_H_sign : Cond.instanceMethod y_H_sign ∈ ab_tbl := (ab_mem (List.mem_append_right _ (List.mem_of_getElem? (i := 338) rfl)) rfl)
theorem se_H_sign : Cond.selects "HiddenRows" y_H_sign y_H_sign ∈ ab_tbl := (ab_mem (List.mem_append_right _ (List.mem_of_getElem? (i := 339) rfl)) rfl)
theorem fb_Ro_append : ab_B y_Ro_append b_Ro_append 2 none 1 := ⟨(ab_mem (List.mem_append_right _ (List.mem_of_getElem? (i := 344) rfl)) rfl), in_Ro, by decide +kernel⟩
theorem im_Ro_append : Cond.instanceMethod y_Ro_append ∈ ab_tbl := (ab_mem (List.mem_append_right _ (List.mem_of_getElem? (i := 342) rfl)) rfl)
theorem se_Ro_append : Cond.selects "HiddenRows$Row" y_Ro_append y_Ro_append ∈ ab_tbl := (ab_mem (List.mem_append_right _ (List.mem_of_getElem? (i := 343) rfl)) rfl)
theorem fb_H_clear : ab_B y_H_clear b_H_clear 2 (some .int) 0 := ⟨(ab_mem (List.mem_append_right _ (List.mem_of_getElem? (i := 348) rfl)) rfl), in_H, by decide +kernel⟩
theorem im_H_clear : Cond.instanceMethod y_H_clear ∈ ab_tbl := (ab_mem (List.mem_append_right _ (List.mem_of_getElem? (i := 346) rfl)) rfl)
theorem se_H_clear : Cond.selects "HiddenRows" y_H_clear y_H_clear ∈ ab_tbl := (ab_mem (List.mem_append_right _ (List.mem_of_getElem? (i := 347) rfl)) rfl)
theorem fb_H_hold : ab_B y_H_hold b_H_hold 4 (some .int) 2 := ⟨(ab_mem (List.mem_append_right _ (List.mem_of_getElem? (i := 352) rfl)) rfl), in_H, by decide +kernel⟩
theorem im_H_hold : Cond.instanceMethod y_H_hold ∈ ab_tbl := (ab_mem (List.mem_append_right _ (List.mem_of_getElem? (i := 350) rfl)) rfl)
theorem se_H_hold : Cond.selects "HiddenRows" y_H_hold y_H_hold ∈ ab_tbl := (ab_mem (List.mem_append_right _ (List.mem_of_getElem? (i := 351) rfl)) rfl)
theorem fb_Ro_has : ab_B y_Ro_has b_Ro_has 2 (some .boolean) 1 := ⟨(ab_mem (List.mem_append_right _ (List.mem_of_getElem? (i := 356) rfl)) rfl), in_Ro, by decide +kernel⟩
theorem im_Ro_has : Cond.instanceMethod y_Ro_has ∈ ab_tbl := (ab_mem (List.mem_append_right _ (List.mem_of_getElem? (i := 354) rfl)) rfl)
theorem se_Ro_has : Cond.selects "HiddenRows$Row" y_Ro_has y_Ro_has ∈ ab_tbl := (ab_mem (List.mem_append_right _ (List.mem_of_getElem? (i := 355) rfl)) rfl)
theorem fb_H_total : ab_B y_H_total b_H_total 1 (some .long) 0 := ⟨(ab_mem (List.mem_append_right _ (List.mem_of_getElem? (i := 360) rfl)) rfl), in_H, by decide +kernel⟩
theorem im_H_total : Cond.instanceMethod y_H_total ∈ ab_tbl := (ab_mem (List.mem_append_right _ (List.mem_of_getElem? (i := 358) rfl)) rfl)
theorem se_H_total : Cond.selects "HiddenRows" y_H_total y_H_total ∈ ab_tbl := (ab_mem (List.mem_append_right _ (List.mem_of_getElem? (i := 359) rfl)) rfl)
theorem fb_Ws_whole : ab_B y_Ws_whole b_Ws_whole 4 (some .long) 0 := ⟨(ab_mem (List.mem_append_right _ (List.mem_of_getElem? (i := 364) rfl)) rfl), in_Ws, by decide +kernel⟩
theorem im_Ws_whole : Cond.instanceMethod y_Ws_whole ∈ ab_tbl := (ab_mem (List.mem_append_right _ (List.mem_of_getElem? (i := 362) rfl)) rfl)
theorem se_Ws_whole : Cond.selects "HiddenRows$WaySums" y_Ws_whole y_Ws_whole ∈ ab_tbl := (ab_mem (List.mem_append_right _ (List.mem_of_getElem? (i := 363) rfl)) rfl)
theorem fb_Ws_refresh : ab_B y_Ws_refresh b_Ws_refresh 1 none 0 := ⟨(ab_mem (List.mem_append_right _ (List.mem_of_getElem? (i := 368) rfl)) rfl), in_Ws, by decide +kernel⟩
theorem im_Ws_refresh : Cond.instanceMethod y_Ws_refresh ∈ ab_tbl := (ab_mem (List.mem_append_right _ (List.mem_of_getElem? (i := 366) rfl)) rfl)
theorem se_Ws_refresh : Cond.selects "HiddenRows$WaySums" y_Ws_refresh y_Ws_refresh ∈ ab_tbl := (ab_mem (List.mem_append_right _ (List.mem_of_getElem? (i := 367) rfl)) rfl)
theorem fb_Ws_showPlaces : ab_B y_Ws_showPlaces b_Ws_showPlaces 3 none 0 := ⟨(ab_mem (List.mem_append_right _ (List.mem_of_getElem? (i := 372) rfl)) rfl), in_Ws, by decide +kernel⟩
theorem im_Ws_showPlaces : Cond.instanceMethod y_Ws_showPlaces ∈ ab_tbl := (ab_mem (List.mem_append_right _ (List.mem_of_getElem? (i := 371) rfl)) rfl)
theorem se_Ws_showPlaces : Cond.selects "HiddenRows$WaySums" y_Ws_showPlaces y_Ws_showPlaces ∈ ab_tbl := (ab_mem (List.mem_append_left _ (List.mem_of_getElem? (i := 2) rfl)) rfl)
theorem fb_Ws_showOf : ab_B y_Ws_showOf b_Ws_showOf 7 (some .long) 2 := ⟨(ab_mem (List.mem_append_right _ (List.mem_of_getElem? (i := 376) rfl)) rfl), in_Ws, by decide +kernel⟩
theorem im_Ws_showOf : Cond.instanceMethod y_Ws_showOf ∈ ab_tbl := (ab_mem (List.mem_append_right _ (List.mem_of_getElem? (i := 375) rfl)) rfl)
theorem se_Ws_showOf : Cond.selects "HiddenRows$WaySums" y_Ws_showOf y_Ws_showOf ∈ ab_tbl := (ab_mem (List.mem_append_left _ (List.mem_of_getElem? (i := 3) rfl)) rfl)
theorem fb_Ws_cut : ab_B y_Ws_cut b_Ws_cut 2 (some .long) 1 := ⟨(ab_mem (List.mem_append_right _ (List.mem_of_getElem? (i := 380) rfl)) rfl), in_Ws, by decide +kernel⟩
theorem im_Ws_cut : Cond.instanceMethod y_Ws_cut ∈ ab_tbl := (ab_mem (List.mem_append_right _ (List.mem_of_getElem? (i := 379) rfl)) rfl)
theorem se_Ws_cut : Cond.selects "HiddenRows$WaySums" y_Ws_cut y_Ws_cut ∈ ab_tbl := (ab_mem (List.mem_append_left _ (List.mem_of_getElem? (i := 4) rfl)) rfl)
theorem fb_Ws_sumFromBehind : ab_B y_Ws_sumFromBehind b_Ws_sumFromBehind 3 none 0 := ⟨(ab_mem (List.mem_append_right _ (List.mem_of_getElem? (i := 384) rfl)) rfl), in_Ws, by decide +kernel⟩
theorem im_Ws_sumFromBehind : Cond.instanceMethod y_Ws_sumFromBehind ∈ ab_tbl := (ab_mem (List.mem_append_right _ (List.mem_of_getElem? (i := 383) rfl)) rfl)
theorem se_Ws_sumFromBehind : Cond.selects "HiddenRows$WaySums" y_Ws_sumFromBehind y_Ws_sumFromBehind ∈ ab_tbl := (ab_mem (List.mem_append_left _ (List.mem_of_getElem? (i := 5) rfl)) rfl)
theorem fb_Ws_longerThan : ab_B y_Ws_longerThan b_Ws_longerThan 7 (some .long) 3 := ⟨(ab_mem (List.mem_append_right _ (List.mem_of_getElem? (i := 388) rfl)) rfl), in_Ws, by decide +kernel⟩
theorem im_Ws_longerThan : Cond.instanceMethod y_Ws_longerThan ∈ ab_tbl := (ab_mem (List.mem_append_right _ (List.mem_of_getElem? (i := 386) rfl)) rfl)
theorem se_Ws_longerThan : Cond.selects "HiddenRows$WaySums" y_Ws_longerThan y_Ws_longerThan ∈ ab_tbl := (ab_mem (List.mem_append_right _ (List.mem_of_getElem? (i := 387) rfl)) rfl)
theorem fb_Ws_segment : ab_B y_Ws_segment b_Ws_segment 7 (some .long) 3 := ⟨(ab_mem (List.mem_append_right _ (List.mem_of_getElem? (i := 392) rfl)) rfl), in_Ws, by decide +kernel⟩
theorem im_Ws_segment : Cond.instanceMethod y_Ws_segment ∈ ab_tbl := (ab_mem (List.mem_append_right _ (List.mem_of_getElem? (i := 390) rfl)) rfl)
theorem se_Ws_segment : Cond.selects "HiddenRows$WaySums" y_Ws_segment y_Ws_segment ∈ ab_tbl := (ab_mem (List.mem_append_right _ (List.mem_of_getElem? (i := 391) rfl)) rfl)
theorem fb_Ws_movedOutOf : ab_B y_Ws_movedOutOf b_Ws_movedOutOf 6 (some .long) 2 := ⟨(ab_mem (List.mem_append_right _ (List.mem_of_getElem? (i := 396) rfl)) rfl), in_Ws, by decide +kernel⟩
theorem im_Ws_movedOutOf : Cond.instanceMethod y_Ws_movedOutOf ∈ ab_tbl := (ab_mem (List.mem_append_right _ (List.mem_of_getElem? (i := 395) rfl)) rfl)
theorem se_Ws_movedOutOf : Cond.selects "HiddenRows$WaySums" y_Ws_movedOutOf y_Ws_movedOutOf ∈ ab_tbl := (ab_mem (List.mem_append_left _ (List.mem_of_getElem? (i := 6) rfl)) rfl)
theorem fb_Ws_sumFromAhead : ab_B y_Ws_sumFromAhead b_Ws_sumFromAhead 3 none 0 := ⟨(ab_mem (List.mem_append_right _ (List.mem_of_getElem? (i := 400) rfl)) rfl), in_Ws, by decide +kernel⟩
theorem im_Ws_sumFromAhead : Cond.instanceMethod y_Ws_sumFromAhead ∈ ab_tbl := (ab_mem (List.mem_append_right _ (List.mem_of_getElem? (i := 399) rfl)) rfl)
theorem se_Ws_sumFromAhead : Cond.selects "HiddenRows$WaySums" y_Ws_sumFromAhead y_Ws_sumFromAhead ∈ ab_tbl := (ab_mem (List.mem_append_left _ (List.mem_of_getElem? (i := 7) rfl)) rfl)
theorem fb_Ws_movedInto : ab_B y_Ws_movedInto b_Ws_movedInto 6 (some .long) 2 := ⟨(ab_mem (List.mem_append_right _ (List.mem_of_getElem? (i := 404) rfl)) rfl), in_Ws, by decide +kernel⟩
theorem im_Ws_movedInto : Cond.instanceMethod y_Ws_movedInto ∈ ab_tbl := (ab_mem (List.mem_append_right _ (List.mem_of_getElem? (i := 403) rfl)) rfl)
theorem se_Ws_movedInto : Cond.selects "HiddenRows$WaySums" y_Ws_movedInto y_Ws_movedInto ∈ ab_tbl := (ab_mem (List.mem_append_left _ (List.mem_of_getElem? (i := 8) rfl)) rfl)
theorem fb_Ws_endedBefore : ab_B y_Ws_endedBefore b_Ws_endedBefore 6 (some .long) 2 := ⟨(ab_mem (List.mem_append_right _ (List.mem_of_getElem? (i := 408) rfl)) rfl), in_Ws, by decide +kernel⟩
theorem im_Ws_endedBefore : Cond.instanceMethod y_Ws_endedBefore ∈ ab_tbl := (ab_mem (List.mem_append_right _ (List.mem_of_getElem? (i := 407) rfl)) rfl)
theorem se_Ws_endedBefore : Cond.selects "HiddenRows$WaySums" y_Ws_endedBefore y_Ws_endedBefore ∈ ab_tbl := (ab_mem (List.mem_append_left _ (List.mem_of_getElem? (i := 9) rfl)) rfl)
theorem fb_H_ways : ab_B y_H_ways b_H_ways 1 (some .int) 0 := ⟨(ab_mem (List.mem_append_right _ (List.mem_of_getElem? (i := 412) rfl)) rfl), in_H, by decide +kernel⟩
theorem im_H_ways : Cond.instanceMethod y_H_ways ∈ ab_tbl := (ab_mem (List.mem_append_right _ (List.mem_of_getElem? (i := 410) rfl)) rfl)
theorem se_H_ways : Cond.selects "HiddenRows" y_H_ways y_H_ways ∈ ab_tbl := (ab_mem (List.mem_append_right _ (List.mem_of_getElem? (i := 411) rfl)) rfl)
theorem fb_H_share : ab_B y_H_share b_H_share 4 (some .long) 3 := ⟨(ab_mem (List.mem_append_right _ (List.mem_of_getElem? (i := 416) rfl)) rfl), in_H, by decide +kernel⟩
theorem im_H_share : Cond.instanceMethod y_H_share ∈ ab_tbl := (ab_mem (List.mem_append_right _ (List.mem_of_getElem? (i := 414) rfl)) rfl)
theorem se_H_share : Cond.selects "HiddenRows" y_H_share y_H_share ∈ ab_tbl := (ab_mem (List.mem_append_right _ (List.mem_of_getElem? (i := 415) rfl)) rfl)
theorem fb_H_isPart : ab_B y_H_isPart b_H_isPart 1 (some .boolean) 1 := ⟨(ab_mem (List.mem_append_right _ (List.mem_of_getElem? (i := 420) rfl)) rfl), in_H, by decide +kernel⟩
theorem sm_H_isPart : Cond.static y_H_isPart ∈ ab_tbl := (ab_mem (List.mem_append_right _ (List.mem_of_getElem? (i := 419) rfl)) rfl)
theorem fb_Ws_over : ab_B y_Ws_over b_Ws_over 6 (some .long) 2 := ⟨(ab_mem (List.mem_append_right _ (List.mem_of_getElem? (i := 425) rfl)) rfl), in_Ws, by decide +kernel⟩
theorem im_Ws_over : Cond.instanceMethod y_Ws_over ∈ ab_tbl := (ab_mem (List.mem_append_right _ (List.mem_of_getElem? (i := 423) rfl)) rfl)
theorem se_Ws_over : Cond.selects "HiddenRows$WaySums" y_Ws_over y_Ws_over ∈ ab_tbl := (ab_mem (List.mem_append_right _ (List.mem_of_getElem? (i := 424) rfl)) rfl)
theorem fb_H_lowestTerms : ab_B y_H_lowestTerms b_H_lowestTerms 7 (some .long) 3 := ⟨(ab_mem (List.mem_append_right _ (List.mem_of_getElem? (i := 431) rfl)) rfl), in_H, by decide +kernel⟩
theorem sm_H_lowestTerms : Cond.static y_H_lowestTerms ∈ ab_tbl := (ab_mem (List.mem_append_right _ (List.mem_of_getElem? (i := 430) rfl)) rfl)
theorem fb_H_commonDivisor : ab_B y_H_commonDivisor b_H_commonDivisor 11 (some .long) 2 := ⟨(ab_mem (List.mem_append_right _ (List.mem_of_getElem? (i := 435) rfl)) rfl), in_H, by decide +kernel⟩
theorem sm_H_commonDivisor : Cond.static y_H_commonDivisor ∈ ab_tbl := (ab_mem (List.mem_append_right _ (List.mem_of_getElem? (i := 434) rfl)) rfl)
theorem fb_H_begin : ab_B y_H_begin b_H_begin 4 (some .long) 3 := ⟨(ab_mem (List.mem_append_right _ (List.mem_of_getElem? (i := 439) rfl)) rfl), in_H, by decide +kernel⟩
theorem im_H_begin : Cond.instanceMethod y_H_begin ∈ ab_tbl := (ab_mem (List.mem_append_right _ (List.mem_of_getElem? (i := 437) rfl)) rfl)
theorem se_H_begin : Cond.selects "HiddenRows" y_H_begin y_H_begin ∈ ab_tbl := (ab_mem (List.mem_append_right _ (List.mem_of_getElem? (i := 438) rfl)) rfl)
theorem fb_Ws_beginning : ab_B y_Ws_beginning b_Ws_beginning 3 (some .long) 2 := ⟨(ab_mem (List.mem_append_right _ (List.mem_of_getElem? (i := 443) rfl)) rfl), in_Ws, by decide +kernel⟩
theorem im_Ws_beginning : Cond.instanceMethod y_Ws_beginning ∈ ab_tbl := (ab_mem (List.mem_append_right _ (List.mem_of_getElem? (i := 441) rfl)) rfl)
theorem se_Ws_beginning : Cond.selects "HiddenRows$WaySums" y_Ws_beginning y_Ws_beginning ∈ ab_tbl := (ab_mem (List.mem_append_right _ (List.mem_of_getElem? (i := 442) rfl)) rfl)
theorem fb_H_pair : ab_B y_H_pair b_H_pair 5 (some .long) 4 := ⟨(ab_mem (List.mem_append_right _ (List.mem_of_getElem? (i := 447) rfl)) rfl), in_H, by decide +kernel⟩
theorem im_H_pair : Cond.instanceMethod y_H_pair ∈ ab_tbl := (ab_mem (List.mem_append_right _ (List.mem_of_getElem? (i := 445) rfl)) rfl)
theorem se_H_pair : Cond.selects "HiddenRows" y_H_pair y_H_pair ∈ ab_tbl := (ab_mem (List.mem_append_right _ (List.mem_of_getElem? (i := 446) rfl)) rfl)
set_option maxRecDepth 20000 in
theorem fb_Ws_moving : ab_B y_Ws_moving b_Ws_moving 4 (some .long) 3 := ⟨(ab_mem (List.mem_append_right _ (List.mem_of_getElem? (i := 451) rfl)) rfl), in_Ws, by decide +kernel⟩
theorem im_Ws_moving : Cond.instanceMethod y_Ws_moving ∈ ab_tbl := (ab_mem (List.mem_append_right _ (List.mem_of_getElem? (i := 449) rfl)) rfl)
theorem se_Ws_moving : Cond.selects "HiddenRows$WaySums" y_Ws_moving y_Ws_moving ∈ ab_tbl := (ab_mem (List.mem_append_right _ (List.mem_of_getElem? (i := 450) rfl)) rfl)
set_option maxRecDepth 20000 in
theorem fb_H_top : ab_B y_H_top b_H_top 4 (some .int) 1 := ⟨(ab_mem (List.mem_append_right _ (List.mem_of_getElem? (i := 455) rfl)) rfl), in_H, by decide +kernel⟩
set_option maxRecDepth 20000 in
theorem im_H_top : Cond.instanceMethod y_H_top ∈ ab_tbl := (ab_mem (List.mem_append_right _ (List.mem_of_getElem? (i := 453) rfl)) rfl)
set_option maxRecDepth 20000 in
theorem se_H_top : Cond.selects "HiddenRows" y_H_top y_H_top ∈ ab_tbl := (ab_mem (List.mem_append_right _ (List.mem_of_getElem? (i := 454) rfl)) rfl)
set_option maxRecDepth 20000 in
theorem fb_H_best : ab_B y_H_best b_H_best 3 (some .long) 1 := ⟨(ab_mem (List.mem_append_right _ (List.mem_of_getElem? (i := 459) rfl)) rfl), in_H, by decide +kernel⟩
set_option maxRecDepth 20000 in
theorem im_H_best : Cond.instanceMethod y_H_best ∈ ab_tbl := (ab_mem (List.mem_append_right _ (List.mem_of_getElem? (i := 457) rfl)) rfl)
set_option maxRecDepth 20000 in
theorem se_H_best : Cond.selects "HiddenRows" y_H_best y_H_best ∈ ab_tbl := (ab_mem (List.mem_append_right _ (List.mem_of_getElem? (i := 458) rfl)) rfl)
set_option maxRecDepth 20000 in
theorem fb_Bw_list : ab_B y_Bw_list b_Bw_list 3 (some (.object "HiddenRows$WayList")) 0 := ⟨(ab_mem (List.mem_append_right _ (List.mem_of_getElem? (i := 463) rfl)) rfl), in_Bw, by decide +kernel⟩
set_option maxRecDepth 20000 in
theorem im_Bw_list : Cond.instanceMethod y_Bw_list ∈ ab_tbl := (ab_mem (List.mem_append_right _ (List.mem_of_getElem? (i := 461) rfl)) rfl)
set_option maxRecDepth 20000 in
theorem se_Bw_list : Cond.selects "HiddenRows$BestWays" y_Bw_list y_Bw_list ∈ ab_tbl := (ab_mem (List.mem_append_right _ (List.mem_of_getElem? (i := 462) rfl)) rfl)
set_option maxRecDepth 20000 in
theorem fb_Bw_listEnds : ab_B y_Bw_listEnds b_Bw_listEnds 8 none 2 := ⟨(ab_mem (List.mem_append_right _ (List.mem_of_getElem? (i := 468) rfl)) rfl), in_Bw, by decide +kernel⟩
set_option maxRecDepth 20000 in
theorem im_Bw_listEnds : Cond.instanceMethod y_Bw_listEnds ∈ ab_tbl := (ab_mem (List.mem_append_right _ (List.mem_of_getElem? (i := 467) rfl)) rfl)
theorem se_Bw_listEnds : Cond.selects "HiddenRows$BestWays" y_Bw_listEnds y_Bw_listEnds ∈ ab_tbl := (ab_mem (List.mem_append_left _ (List.mem_of_getElem? (i := 10) rfl)) rfl)
set_option maxRecDepth 20000 in
theorem fb_Bw_endsFrom : ab_B y_Bw_endsFrom b_Bw_endsFrom 3 (some (.object "HiddenRows$WayList")) 2 := ⟨(ab_mem (List.mem_append_right _ (List.mem_of_getElem? (i := 472) rfl)) rfl), in_Bw, by decide +kernel⟩
set_option maxRecDepth 20000 in
theorem im_Bw_endsFrom : Cond.instanceMethod y_Bw_endsFrom ∈ ab_tbl := (ab_mem (List.mem_append_right _ (List.mem_of_getElem? (i := 471) rfl)) rfl)
theorem se_Bw_endsFrom : Cond.selects "HiddenRows$BestWays" y_Bw_endsFrom y_Bw_endsFrom ∈ ab_tbl := (ab_mem (List.mem_append_left _ (List.mem_of_getElem? (i := 11) rfl)) rfl)
set_option maxRecDepth 20000 in
theorem fb_Wl_offer : ab_B y_Wl_offer b_Wl_offer 6 (some .boolean) 2 := ⟨(ab_mem (List.mem_append_right _ (List.mem_of_getElem? (i := 477) rfl)) rfl), in_Wl, by decide +kernel⟩
set_option maxRecDepth 20000 in
theorem im_Wl_offer : Cond.instanceMethod y_Wl_offer ∈ ab_tbl := (ab_mem (List.mem_append_right _ (List.mem_of_getElem? (i := 475) rfl)) rfl)
set_option maxRecDepth 20000 in
theorem se_Wl_offer : Cond.selects "HiddenRows$WayList" y_Wl_offer y_Wl_offer ∈ ab_tbl := (ab_mem (List.mem_append_right _ (List.mem_of_getElem? (i := 476) rfl)) rfl)
set_option maxRecDepth 20000 in
theorem fb_Wl_isBetter : ab_B y_Wl_isBetter b_Wl_isBetter 5 (some .boolean) 3 := ⟨(ab_mem (List.mem_append_right _ (List.mem_of_getElem? (i := 481) rfl)) rfl), in_Wl, by decide +kernel⟩
set_option maxRecDepth 20000 in
theorem im_Wl_isBetter : Cond.instanceMethod y_Wl_isBetter ∈ ab_tbl := (ab_mem (List.mem_append_right _ (List.mem_of_getElem? (i := 480) rfl)) rfl)
theorem se_Wl_isBetter : Cond.selects "HiddenRows$WayList" y_Wl_isBetter y_Wl_isBetter ∈ ab_tbl := (ab_mem (List.mem_append_left _ (List.mem_of_getElem? (i := 12) rfl)) rfl)
set_option maxRecDepth 20000 in
theorem fb_Bw_offerMoves : ab_B y_Bw_offerMoves b_Bw_offerMoves 9 none 5 := ⟨(ab_mem (List.mem_append_right _ (List.mem_of_getElem? (i := 488) rfl)) rfl), in_Bw, by decide +kernel⟩
set_option maxRecDepth 20000 in
theorem im_Bw_offerMoves : Cond.instanceMethod y_Bw_offerMoves ∈ ab_tbl := (ab_mem (List.mem_append_right _ (List.mem_of_getElem? (i := 487) rfl)) rfl)
theorem se_Bw_offerMoves : Cond.selects "HiddenRows$BestWays" y_Bw_offerMoves y_Bw_offerMoves ∈ ab_tbl := (ab_mem (List.mem_append_left _ (List.mem_of_getElem? (i := 13) rfl)) rfl)
set_option maxRecDepth 20000 in
theorem fb_Bw_offerAll : ab_B y_Bw_offerAll b_Bw_offerAll 6 none 4 := ⟨(ab_mem (List.mem_append_right _ (List.mem_of_getElem? (i := 491) rfl)) rfl), in_Bw, by decide +kernel⟩
set_option maxRecDepth 20000 in
theorem sm_Bw_offerAll : Cond.static y_Bw_offerAll ∈ ab_tbl := (ab_mem (List.mem_append_right _ (List.mem_of_getElem? (i := 490) rfl)) rfl)
set_option maxRecDepth 20000 in
theorem fb_Bw_listWhole : ab_B y_Bw_listWhole b_Bw_listWhole 2 none 0 := ⟨(ab_mem (List.mem_append_right _ (List.mem_of_getElem? (i := 495) rfl)) rfl), in_Bw, by decide +kernel⟩
set_option maxRecDepth 20000 in
theorem im_Bw_listWhole : Cond.instanceMethod y_Bw_listWhole ∈ ab_tbl := (ab_mem (List.mem_append_right _ (List.mem_of_getElem? (i := 494) rfl)) rfl)
theorem se_Bw_listWhole : Cond.selects "HiddenRows$BestWays" y_Bw_listWhole y_Bw_listWhole ∈ ab_tbl := (ab_mem (List.mem_append_left _ (List.mem_of_getElem? (i := 14) rfl)) rfl)
set_option maxRecDepth 20000 in
theorem fb_H_bestAt : ab_B y_H_bestAt b_H_bestAt 4 (some .int) 2 := ⟨(ab_mem (List.mem_append_right _ (List.mem_of_getElem? (i := 499) rfl)) rfl), in_H, by decide +kernel⟩
set_option maxRecDepth 20000 in
theorem im_H_bestAt : Cond.instanceMethod y_H_bestAt ∈ ab_tbl := (ab_mem (List.mem_append_right _ (List.mem_of_getElem? (i := 497) rfl)) rfl)
set_option maxRecDepth 20000 in
theorem se_H_bestAt : Cond.selects "HiddenRows" y_H_bestAt y_H_bestAt ∈ ab_tbl := (ab_mem (List.mem_append_right _ (List.mem_of_getElem? (i := 498) rfl)) rfl)
set_option maxRecDepth 20000 in
theorem fb_Ro_toldAt : ab_B y_Ro_toldAt b_Ro_toldAt 3 (some .int) 2 := ⟨(ab_mem (List.mem_append_right _ (List.mem_of_getElem? (i := 503) rfl)) rfl), in_Ro, by decide +kernel⟩
set_option maxRecDepth 20000 in
theorem im_Ro_toldAt : Cond.instanceMethod y_Ro_toldAt ∈ ab_tbl := (ab_mem (List.mem_append_right _ (List.mem_of_getElem? (i := 501) rfl)) rfl)
set_option maxRecDepth 20000 in
theorem se_Ro_toldAt : Cond.selects "HiddenRows$Row" y_Ro_toldAt y_Ro_toldAt ∈ ab_tbl := (ab_mem (List.mem_append_right _ (List.mem_of_getElem? (i := 502) rfl)) rfl)
set_option maxRecDepth 20000 in
theorem fb_H_drawn : ab_B y_H_drawn b_H_drawn 4 (some .long) 1 := ⟨(ab_mem (List.mem_append_right _ (List.mem_of_getElem? (i := 507) rfl)) rfl), in_H, by decide +kernel⟩
set_option maxRecDepth 20000 in
theorem im_H_drawn : Cond.instanceMethod y_H_drawn ∈ ab_tbl := (ab_mem (List.mem_append_right _ (List.mem_of_getElem? (i := 505) rfl)) rfl)
set_option maxRecDepth 20000 in
theorem se_H_drawn : Cond.selects "HiddenRows" y_H_drawn y_H_drawn ∈ ab_tbl := (ab_mem (List.mem_append_right _ (List.mem_of_getElem? (i := 506) rfl)) rfl)
set_option maxRecDepth 20000 in
theorem fb_Dr_spread : ab_B y_Dr_spread b_Dr_spread 3 (some .long) 1 := ⟨(ab_mem (List.mem_append_right _ (List.mem_of_getElem? (i := 510) rfl)) rfl), in_Dr, by decide +kernel⟩
set_option maxRecDepth 20000 in
theorem sm_Dr_spread : Cond.static y_Dr_spread ∈ ab_tbl := (ab_mem (List.mem_append_right _ (List.mem_of_getElem? (i := 509) rfl)) rfl)
set_option maxRecDepth 20000 in
theorem fb_Dr_draw : ab_B y_Dr_draw b_Dr_draw 6 (some .long) 1 := ⟨(ab_mem (List.mem_append_right _ (List.mem_of_getElem? (i := 517) rfl)) rfl), in_Dr, by decide +kernel⟩
set_option maxRecDepth 20000 in
theorem im_Dr_draw : Cond.instanceMethod y_Dr_draw ∈ ab_tbl := (ab_mem (List.mem_append_right _ (List.mem_of_getElem? (i := 515) rfl)) rfl)
set_option maxRecDepth 20000 in
theorem se_Dr_draw : Cond.selects "HiddenRows$Drawing" y_Dr_draw y_Dr_draw ∈ ab_tbl := (ab_mem (List.mem_append_right _ (List.mem_of_getElem? (i := 516) rfl)) rfl)
set_option maxRecDepth 20000 in
theorem fb_Dr_openSegment : ab_B y_Dr_openSegment b_Dr_openSegment 3 (some .long) 1 := ⟨(ab_mem (List.mem_append_right _ (List.mem_of_getElem? (i := 522) rfl)) rfl), in_Dr, by decide +kernel⟩
set_option maxRecDepth 20000 in
theorem im_Dr_openSegment : Cond.instanceMethod y_Dr_openSegment ∈ ab_tbl := (ab_mem (List.mem_append_right _ (List.mem_of_getElem? (i := 521) rfl)) rfl)
theorem se_Dr_openSegment : Cond.selects "HiddenRows$Drawing" y_Dr_openSegment y_Dr_openSegment ∈ ab_tbl := (ab_mem (List.mem_append_left _ (List.mem_of_getElem? (i := 15) rfl)) rfl)
set_option maxRecDepth 20000 in
theorem fb_Dr_tellPlace : ab_B y_Dr_tellPlace b_Dr_tellPlace 9 (some .long) 2 := ⟨(ab_mem (List.mem_append_right _ (List.mem_of_getElem? (i := 527) rfl)) rfl), in_Dr, by decide +kernel⟩
set_option maxRecDepth 20000 in
theorem im_Dr_tellPlace : Cond.instanceMethod y_Dr_tellPlace ∈ ab_tbl := (ab_mem (List.mem_append_right _ (List.mem_of_getElem? (i := 526) rfl)) rfl)
theorem se_Dr_tellPlace : Cond.selects "HiddenRows$Drawing" y_Dr_tellPlace y_Dr_tellPlace ∈ ab_tbl := (ab_mem (List.mem_append_left _ (List.mem_of_getElem? (i := 16) rfl)) rfl)
set_option maxRecDepth 20000 in
theorem fb_Dr_sumTelling : ab_B y_Dr_sumTelling b_Dr_sumTelling 4 (some .long) 2 := ⟨(ab_mem (List.mem_append_right _ (List.mem_of_getElem? (i := 531) rfl)) rfl), in_Dr, by decide +kernel⟩
set_option maxRecDepth 20000 in
theorem im_Dr_sumTelling : Cond.instanceMethod y_Dr_sumTelling ∈ ab_tbl := (ab_mem (List.mem_append_right _ (List.mem_of_getElem? (i := 530) rfl)) rfl)
theorem se_Dr_sumTelling : Cond.selects "HiddenRows$Drawing" y_Dr_sumTelling y_Dr_sumTelling ∈ ab_tbl := (ab_mem (List.mem_append_left _ (List.mem_of_getElem? (i := 17) rfl)) rfl)
set_option maxRecDepth 20000 in
theorem fb_Dr_closing : ab_B y_Dr_closing b_Dr_closing 3 (some .long) 2 := ⟨(ab_mem (List.mem_append_right _ (List.mem_of_getElem? (i := 535) rfl)) rfl), in_Dr, by decide +kernel⟩
set_option maxRecDepth 20000 in
theorem im_Dr_closing : Cond.instanceMethod y_Dr_closing ∈ ab_tbl := (ab_mem (List.mem_append_right _ (List.mem_of_getElem? (i := 534) rfl)) rfl)
theorem se_Dr_closing : Cond.selects "HiddenRows$Drawing" y_Dr_closing y_Dr_closing ∈ ab_tbl := (ab_mem (List.mem_append_left _ (List.mem_of_getElem? (i := 18) rfl)) rfl)
set_option maxRecDepth 20000 in
theorem fb_Dr_take : ab_B y_Dr_take b_Dr_take 3 none 2 := ⟨(ab_mem (List.mem_append_right _ (List.mem_of_getElem? (i := 540) rfl)) rfl), in_Dr, by decide +kernel⟩
set_option maxRecDepth 20000 in
theorem im_Dr_take : Cond.instanceMethod y_Dr_take ∈ ab_tbl := (ab_mem (List.mem_append_right _ (List.mem_of_getElem? (i := 539) rfl)) rfl)
theorem se_Dr_take : Cond.selects "HiddenRows$Drawing" y_Dr_take y_Dr_take ∈ ab_tbl := (ab_mem (List.mem_append_left _ (List.mem_of_getElem? (i := 19) rfl)) rfl)
set_option maxRecDepth 20000 in
theorem fb_H_drawnAt : ab_B y_H_drawnAt b_H_drawnAt 2 (some .int) 1 := ⟨(ab_mem (List.mem_append_right _ (List.mem_of_getElem? (i := 544) rfl)) rfl), in_H, by decide +kernel⟩
set_option maxRecDepth 20000 in
theorem im_H_drawnAt : Cond.instanceMethod y_H_drawnAt ∈ ab_tbl := (ab_mem (List.mem_append_right _ (List.mem_of_getElem? (i := 542) rfl)) rfl)
set_option maxRecDepth 20000 in
theorem se_H_drawnAt : Cond.selects "HiddenRows" y_H_drawnAt y_H_drawnAt ∈ ab_tbl := (ab_mem (List.mem_append_right _ (List.mem_of_getElem? (i := 543) rfl)) rfl)
set_option maxRecDepth 20000 in
theorem fb_H_trees : ab_B y_H_trees b_H_trees 2 (some .long) 1 := ⟨(ab_mem (List.mem_append_right _ (List.mem_of_getElem? (i := 548) rfl)) rfl), in_H, by decide +kernel⟩
set_option maxRecDepth 20000 in
theorem im_H_trees : Cond.instanceMethod y_H_trees ∈ ab_tbl := (ab_mem (List.mem_append_right _ (List.mem_of_getElem? (i := 546) rfl)) rfl)
set_option maxRecDepth 20000 in
theorem se_H_trees : Cond.selects "HiddenRows" y_H_trees y_H_trees ∈ ab_tbl := (ab_mem (List.mem_append_right _ (List.mem_of_getElem? (i := 547) rfl)) rfl)
set_option maxRecDepth 20000 in
theorem fb_Tt_sumOfAll : ab_B y_Tt_sumOfAll b_Tt_sumOfAll 2 (some .long) 1 := ⟨(ab_mem (List.mem_append_right _ (List.mem_of_getElem? (i := 552) rfl)) rfl), in_Tt, by decide +kernel⟩
set_option maxRecDepth 20000 in
theorem im_Tt_sumOfAll : Cond.instanceMethod y_Tt_sumOfAll ∈ ab_tbl := (ab_mem (List.mem_append_right _ (List.mem_of_getElem? (i := 550) rfl)) rfl)
set_option maxRecDepth 20000 in
theorem se_Tt_sumOfAll : Cond.selects "HiddenRows$TreeTables" y_Tt_sumOfAll y_Tt_sumOfAll ∈ ab_tbl := (ab_mem (List.mem_append_right _ (List.mem_of_getElem? (i := 551) rfl)) rfl)
set_option maxRecDepth 20000 in
theorem fb_Tt_refresh : ab_B y_Tt_refresh b_Tt_refresh 4 none 0 := ⟨(ab_mem (List.mem_append_right _ (List.mem_of_getElem? (i := 556) rfl)) rfl), in_Tt, by decide +kernel⟩
set_option maxRecDepth 20000 in
theorem im_Tt_refresh : Cond.instanceMethod y_Tt_refresh ∈ ab_tbl := (ab_mem (List.mem_append_right _ (List.mem_of_getElem? (i := 555) rfl)) rfl)
theorem se_Tt_refresh : Cond.selects "HiddenRows$TreeTables" y_Tt_refresh y_Tt_refresh ∈ ab_tbl := (ab_mem (List.mem_append_left _ (List.mem_of_getElem? (i := 20) rfl)) rfl)
set_option maxRecDepth 20000 in
theorem fb_Tt_fill : ab_B y_Tt_fill b_Tt_fill 8 none 3 := ⟨(ab_mem (List.mem_append_right _ (List.mem_of_getElem? (i := 560) rfl)) rfl), in_Tt, by decide +kernel⟩
set_option maxRecDepth 20000 in
theorem im_Tt_fill : Cond.instanceMethod y_Tt_fill ∈ ab_tbl := (ab_mem (List.mem_append_right _ (List.mem_of_getElem? (i := 559) rfl)) rfl)
theorem se_Tt_fill : Cond.selects "HiddenRows$TreeTables" y_Tt_fill y_Tt_fill ∈ ab_tbl := (ab_mem (List.mem_append_left _ (List.mem_of_getElem? (i := 21) rfl)) rfl)
set_option maxRecDepth 20000 in
theorem fb_Tt_spanOf : ab_B y_Tt_spanOf b_Tt_spanOf 2 (some .int) 2 := ⟨(ab_mem (List.mem_append_right _ (List.mem_of_getElem? (i := 563) rfl)) rfl), in_Tt, by decide +kernel⟩
set_option maxRecDepth 20000 in
theorem sm_Tt_spanOf : Cond.static y_Tt_spanOf ∈ ab_tbl := (ab_mem (List.mem_append_right _ (List.mem_of_getElem? (i := 562) rfl)) rfl)
set_option maxRecDepth 20000 in
theorem fb_Ki_leafOf : ab_B y_Ki_leafOf b_Ki_leafOf 5 (some .int) 2 := ⟨(ab_mem (List.mem_append_right _ (List.mem_of_getElem? (i := 567) rfl)) rfl), in_Ki, by decide +kernel⟩
set_option maxRecDepth 20000 in
theorem im_Ki_leafOf : Cond.instanceMethod y_Ki_leafOf ∈ ab_tbl := (ab_mem (List.mem_append_right _ (List.mem_of_getElem? (i := 565) rfl)) rfl)
set_option maxRecDepth 20000 in
theorem se_Ki_leafOf : Cond.selects "HiddenRows$Kinds" y_Ki_leafOf y_Ki_leafOf ∈ ab_tbl := (ab_mem (List.mem_append_right _ (List.mem_of_getElem? (i := 566) rfl)) rfl)
set_option maxRecDepth 20000 in
theorem fb_Tt_addSplit : ab_B y_Tt_addSplit b_Tt_addSplit 9 none 4 := ⟨(ab_mem (List.mem_append_right _ (List.mem_of_getElem? (i := 574) rfl)) rfl), in_Tt, by decide +kernel⟩
set_option maxRecDepth 20000 in
theorem im_Tt_addSplit : Cond.instanceMethod y_Tt_addSplit ∈ ab_tbl := (ab_mem (List.mem_append_right _ (List.mem_of_getElem? (i := 573) rfl)) rfl)
theorem se_Tt_addSplit : Cond.selects "HiddenRows$TreeTables" y_Tt_addSplit y_Tt_addSplit ∈ ab_tbl := (ab_mem (List.mem_append_left _ (List.mem_of_getElem? (i := 22) rfl)) rfl)
set_option maxRecDepth 20000 in
theorem fb_H_treeCount : ab_B y_H_treeCount b_H_treeCount 2 (some .long) 1 := ⟨(ab_mem (List.mem_append_right _ (List.mem_of_getElem? (i := 582) rfl)) rfl), in_H, by decide +kernel⟩
set_option maxRecDepth 20000 in
theorem im_H_treeCount : Cond.instanceMethod y_H_treeCount ∈ ab_tbl := (ab_mem (List.mem_append_right _ (List.mem_of_getElem? (i := 580) rfl)) rfl)
set_option maxRecDepth 20000 in
theorem se_H_treeCount : Cond.selects "HiddenRows" y_H_treeCount y_H_treeCount ∈ ab_tbl := (ab_mem (List.mem_append_right _ (List.mem_of_getElem? (i := 581) rfl)) rfl)
set_option maxRecDepth 20000 in
theorem fb_Tt_countOfAll : ab_B y_Tt_countOfAll b_Tt_countOfAll 2 (some .long) 1 := ⟨(ab_mem (List.mem_append_right _ (List.mem_of_getElem? (i := 586) rfl)) rfl), in_Tt, by decide +kernel⟩
set_option maxRecDepth 20000 in
theorem im_Tt_countOfAll : Cond.instanceMethod y_Tt_countOfAll ∈ ab_tbl := (ab_mem (List.mem_append_right _ (List.mem_of_getElem? (i := 584) rfl)) rfl)
set_option maxRecDepth 20000 in
theorem se_Tt_countOfAll : Cond.selects "HiddenRows$TreeTables" y_Tt_countOfAll y_Tt_countOfAll ∈ ab_tbl := (ab_mem (List.mem_append_right _ (List.mem_of_getElem? (i := 585) rfl)) rfl)
set_option maxRecDepth 20000 in
theorem fb_H_treeBest : ab_B y_H_treeBest b_H_treeBest 2 (some .long) 1 := ⟨(ab_mem (List.mem_append_right _ (List.mem_of_getElem? (i := 590) rfl)) rfl), in_H, by decide +kernel⟩
set_option maxRecDepth 20000 in
theorem im_H_treeBest : Cond.instanceMethod y_H_treeBest ∈ ab_tbl := (ab_mem (List.mem_append_right _ (List.mem_of_getElem? (i := 588) rfl)) rfl)
set_option maxRecDepth 20000 in
theorem se_H_treeBest : Cond.selects "HiddenRows" y_H_treeBest y_H_treeBest ∈ ab_tbl := (ab_mem (List.mem_append_right _ (List.mem_of_getElem? (i := 589) rfl)) rfl)
set_option maxRecDepth 20000 in
theorem fb_Tt_bestOfAll : ab_B y_Tt_bestOfAll b_Tt_bestOfAll 2 (some .long) 1 := ⟨(ab_mem (List.mem_append_right _ (List.mem_of_getElem? (i := 594) rfl)) rfl), in_Tt, by decide +kernel⟩
set_option maxRecDepth 20000 in
theorem im_Tt_bestOfAll : Cond.instanceMethod y_Tt_bestOfAll ∈ ab_tbl := (ab_mem (List.mem_append_right _ (List.mem_of_getElem? (i := 592) rfl)) rfl)
set_option maxRecDepth 20000 in
theorem se_Tt_bestOfAll : Cond.selects "HiddenRows$TreeTables" y_Tt_bestOfAll y_Tt_bestOfAll ∈ ab_tbl := (ab_mem (List.mem_append_right _ (List.mem_of_getElem? (i := 593) rfl)) rfl)
set_option maxRecDepth 20000 in
theorem fb_H_treeAt : ab_B y_H_treeAt b_H_treeAt 3 (some .int) 2 := ⟨(ab_mem (List.mem_append_right _ (List.mem_of_getElem? (i := 598) rfl)) rfl), in_H, by decide +kernel⟩
set_option maxRecDepth 20000 in
theorem im_H_treeAt : Cond.instanceMethod y_H_treeAt ∈ ab_tbl := (ab_mem (List.mem_append_right _ (List.mem_of_getElem? (i := 596) rfl)) rfl)
set_option maxRecDepth 20000 in
theorem se_H_treeAt : Cond.selects "HiddenRows" y_H_treeAt y_H_treeAt ∈ ab_tbl := (ab_mem (List.mem_append_right _ (List.mem_of_getElem? (i := 597) rfl)) rfl)
set_option maxRecDepth 20000 in
theorem fb_Tt_bestTells : ab_B y_Tt_bestTells b_Tt_bestTells 5 (some .int) 2 := ⟨(ab_mem (List.mem_append_right _ (List.mem_of_getElem? (i := 602) rfl)) rfl), in_Tt, by decide +kernel⟩
set_option maxRecDepth 20000 in
theorem im_Tt_bestTells : Cond.instanceMethod y_Tt_bestTells ∈ ab_tbl := (ab_mem (List.mem_append_right _ (List.mem_of_getElem? (i := 600) rfl)) rfl)
set_option maxRecDepth 20000 in
theorem se_Tt_bestTells : Cond.selects "HiddenRows$TreeTables" y_Tt_bestTells y_Tt_bestTells ∈ ab_tbl := (ab_mem (List.mem_append_right _ (List.mem_of_getElem? (i := 601) rfl)) rfl)
set_option maxRecDepth 20000 in
theorem fb_Tt_push : ab_B y_Tt_push b_Tt_push 3 none 2 := ⟨(ab_mem (List.mem_append_right _ (List.mem_of_getElem? (i := 606) rfl)) rfl), in_Tt, by decide +kernel⟩
set_option maxRecDepth 20000 in
theorem im_Tt_push : Cond.instanceMethod y_Tt_push ∈ ab_tbl := (ab_mem (List.mem_append_right _ (List.mem_of_getElem? (i := 605) rfl)) rfl)
theorem se_Tt_push : Cond.selects "HiddenRows$TreeTables" y_Tt_push y_Tt_push ∈ ab_tbl := (ab_mem (List.mem_append_left _ (List.mem_of_getElem? (i := 23) rfl)) rfl)
set_option maxRecDepth 20000 in
theorem fb_Tt_tellNode : ab_B y_Tt_tellNode b_Tt_tellNode 11 (some .int) 2 := ⟨(ab_mem (List.mem_append_right _ (List.mem_of_getElem? (i := 610) rfl)) rfl), in_Tt, by decide +kernel⟩
set_option maxRecDepth 20000 in
theorem im_Tt_tellNode : Cond.instanceMethod y_Tt_tellNode ∈ ab_tbl := (ab_mem (List.mem_append_right _ (List.mem_of_getElem? (i := 609) rfl)) rfl)
theorem se_Tt_tellNode : Cond.selects "HiddenRows$TreeTables" y_Tt_tellNode y_Tt_tellNode ∈ ab_tbl := (ab_mem (List.mem_append_left _ (List.mem_of_getElem? (i := 24) rfl)) rfl)
set_option maxRecDepth 20000 in
theorem fb_Tt_bestParts : ab_B y_Tt_bestParts b_Tt_bestParts 9 (some .int) 4 := ⟨(ab_mem (List.mem_append_right _ (List.mem_of_getElem? (i := 614) rfl)) rfl), in_Tt, by decide +kernel⟩
set_option maxRecDepth 20000 in
theorem im_Tt_bestParts : Cond.instanceMethod y_Tt_bestParts ∈ ab_tbl := (ab_mem (List.mem_append_right _ (List.mem_of_getElem? (i := 613) rfl)) rfl)
theorem se_Tt_bestParts : Cond.selects "HiddenRows$TreeTables" y_Tt_bestParts y_Tt_bestParts ∈ ab_tbl := (ab_mem (List.mem_append_left _ (List.mem_of_getElem? (i := 25) rfl)) rfl)
set_option maxRecDepth 20000 in
theorem fb_H_span : ab_B y_H_span b_H_span 6 (some .long) 5 := ⟨(ab_mem (List.mem_append_right _ (List.mem_of_getElem? (i := 618) rfl)) rfl), in_H, by decide +kernel⟩
set_option maxRecDepth 20000 in
theorem im_H_span : Cond.instanceMethod y_H_span ∈ ab_tbl := (ab_mem (List.mem_append_right _ (List.mem_of_getElem? (i := 616) rfl)) rfl)
set_option maxRecDepth 20000 in
theorem se_H_span : Cond.selects "HiddenRows" y_H_span y_H_span ∈ ab_tbl := (ab_mem (List.mem_append_right _ (List.mem_of_getElem? (i := 617) rfl)) rfl)
set_option maxRecDepth 20000 in
theorem fb_Tt_sumWith : ab_B y_Tt_sumWith b_Tt_sumWith 8 (some .long) 4 := ⟨(ab_mem (List.mem_append_right _ (List.mem_of_getElem? (i := 622) rfl)) rfl), in_Tt, by decide +kernel⟩
set_option maxRecDepth 20000 in
theorem im_Tt_sumWith : Cond.instanceMethod y_Tt_sumWith ∈ ab_tbl := (ab_mem (List.mem_append_right _ (List.mem_of_getElem? (i := 620) rfl)) rfl)
set_option maxRecDepth 20000 in
theorem se_Tt_sumWith : Cond.selects "HiddenRows$TreeTables" y_Tt_sumWith y_Tt_sumWith ∈ ab_tbl := (ab_mem (List.mem_append_right _ (List.mem_of_getElem? (i := 621) rfl)) rfl)
set_option maxRecDepth 20000 in
theorem fb_Tt_addAround : ab_B y_Tt_addAround b_Tt_addAround 6 none 4 := ⟨(ab_mem (List.mem_append_right _ (List.mem_of_getElem? (i := 626) rfl)) rfl), in_Tt, by decide +kernel⟩
set_option maxRecDepth 20000 in
theorem im_Tt_addAround : Cond.instanceMethod y_Tt_addAround ∈ ab_tbl := (ab_mem (List.mem_append_right _ (List.mem_of_getElem? (i := 625) rfl)) rfl)
theorem se_Tt_addAround : Cond.selects "HiddenRows$TreeTables" y_Tt_addAround y_Tt_addAround ∈ ab_tbl := (ab_mem (List.mem_append_left _ (List.mem_of_getElem? (i := 26) rfl)) rfl)
set_option maxRecDepth 20000 in
theorem fb_Tt_addProducts : ab_B y_Tt_addProducts b_Tt_addProducts 11 none 5 := ⟨(ab_mem (List.mem_append_right _ (List.mem_of_getElem? (i := 630) rfl)) rfl), in_Tt, by decide +kernel⟩
set_option maxRecDepth 20000 in
theorem im_Tt_addProducts : Cond.instanceMethod y_Tt_addProducts ∈ ab_tbl := (ab_mem (List.mem_append_right _ (List.mem_of_getElem? (i := 629) rfl)) rfl)
theorem se_Tt_addProducts : Cond.selects "HiddenRows$TreeTables" y_Tt_addProducts y_Tt_addProducts ∈ ab_tbl := (ab_mem (List.mem_append_left _ (List.mem_of_getElem? (i := 27) rfl)) rfl)
set_option maxRecDepth 20000 in
theorem fb_Mo_init : ab_B y_Mo_init b_Mo_init 1 none 0 := ⟨(ab_mem (List.mem_append_right _ (List.mem_of_getElem? (i := 635) rfl)) rfl), in_Mo, by decide +kernel⟩
set_option maxRecDepth 20000 in
theorem im_Mo_init : Cond.instanceMethod y_Mo_init ∈ ab_tbl := (ab_mem (List.mem_append_right _ (List.mem_of_getElem? (i := 634) rfl)) rfl)
set_option maxRecDepth 20000 in
theorem fb_Mo_state : ab_B y_Mo_state b_Mo_state 2 (some .int) 0 := ⟨(ab_mem (List.mem_append_right _ (List.mem_of_getElem? (i := 722) rfl)) rfl), in_Mo, by decide +kernel⟩
set_option maxRecDepth 20000 in
theorem im_Mo_state : Cond.instanceMethod y_Mo_state ∈ ab_tbl := (ab_mem (List.mem_append_right _ (List.mem_of_getElem? (i := 720) rfl)) rfl)
set_option maxRecDepth 20000 in
theorem se_Mo_state : Cond.selects "HiddenRowsModel" y_Mo_state y_Mo_state ∈ ab_tbl := (ab_mem (List.mem_append_right _ (List.mem_of_getElem? (i := 721) rfl)) rfl)
set_option maxRecDepth 20000 in
theorem fb_Mo_change : ab_B y_Mo_change b_Mo_change 1 none 0 := ⟨(ab_mem (List.mem_append_right _ (List.mem_of_getElem? (i := 726) rfl)) rfl), in_Mo, by decide +kernel⟩
set_option maxRecDepth 20000 in
theorem im_Mo_change : Cond.instanceMethod y_Mo_change ∈ ab_tbl := (ab_mem (List.mem_append_right _ (List.mem_of_getElem? (i := 725) rfl)) rfl)
theorem se_Mo_change : Cond.selects "HiddenRowsModel" y_Mo_change y_Mo_change ∈ ab_tbl := (ab_mem (List.mem_append_left _ (List.mem_of_getElem? (i := 28) rfl)) rfl)
set_option maxRecDepth 20000 in
theorem fb_Mo_weight : ab_B y_Mo_weight b_Mo_weight 5 (some .int) 3 := ⟨(ab_mem (List.mem_append_right _ (List.mem_of_getElem? (i := 730) rfl)) rfl), in_Mo, by decide +kernel⟩
set_option maxRecDepth 20000 in
theorem im_Mo_weight : Cond.instanceMethod y_Mo_weight ∈ ab_tbl := (ab_mem (List.mem_append_right _ (List.mem_of_getElem? (i := 728) rfl)) rfl)
set_option maxRecDepth 20000 in
theorem se_Mo_weight : Cond.selects "HiddenRowsModel" y_Mo_weight y_Mo_weight ∈ ab_tbl := (ab_mem (List.mem_append_right _ (List.mem_of_getElem? (i := 729) rfl)) rfl)
set_option maxRecDepth 20000 in
theorem fb_Mo_isState : ab_B y_Mo_isState b_Mo_isState 2 (some .boolean) 1 := ⟨(ab_mem (List.mem_append_right _ (List.mem_of_getElem? (i := 734) rfl)) rfl), in_Mo, by decide +kernel⟩
set_option maxRecDepth 20000 in
theorem im_Mo_isState : Cond.instanceMethod y_Mo_isState ∈ ab_tbl := (ab_mem (List.mem_append_right _ (List.mem_of_getElem? (i := 733) rfl)) rfl)
theorem se_Mo_isState : Cond.selects "HiddenRowsModel" y_Mo_isState y_Mo_isState ∈ ab_tbl := (ab_mem (List.mem_append_left _ (List.mem_of_getElem? (i := 29) rfl)) rfl)
set_option maxRecDepth 20000 in
theorem fb_Mo_isWeight : ab_B y_Mo_isWeight b_Mo_isWeight 1 (some .boolean) 1 := ⟨(ab_mem (List.mem_append_right _ (List.mem_of_getElem? (i := 737) rfl)) rfl), in_Mo, by decide +kernel⟩
set_option maxRecDepth 20000 in
theorem sm_Mo_isWeight : Cond.static y_Mo_isWeight ∈ ab_tbl := (ab_mem (List.mem_append_right _ (List.mem_of_getElem? (i := 736) rfl)) rfl)
set_option maxRecDepth 20000 in
theorem fb_Mo_move : ab_B y_Mo_move b_Mo_move 5 (some .int) 3 := ⟨(ab_mem (List.mem_append_right _ (List.mem_of_getElem? (i := 741) rfl)) rfl), in_Mo, by decide +kernel⟩
set_option maxRecDepth 20000 in
theorem im_Mo_move : Cond.instanceMethod y_Mo_move ∈ ab_tbl := (ab_mem (List.mem_append_right _ (List.mem_of_getElem? (i := 739) rfl)) rfl)
set_option maxRecDepth 20000 in
theorem se_Mo_move : Cond.selects "HiddenRowsModel" y_Mo_move y_Mo_move ∈ ab_tbl := (ab_mem (List.mem_append_right _ (List.mem_of_getElem? (i := 740) rfl)) rfl)
set_option maxRecDepth 20000 in
theorem fb_Mo_kind : ab_B y_Mo_kind b_Mo_kind 1 (some .int) 0 := ⟨(ab_mem (List.mem_append_right _ (List.mem_of_getElem? (i := 745) rfl)) rfl), in_Mo, by decide +kernel⟩
set_option maxRecDepth 20000 in
theorem im_Mo_kind : Cond.instanceMethod y_Mo_kind ∈ ab_tbl := (ab_mem (List.mem_append_right _ (List.mem_of_getElem? (i := 743) rfl)) rfl)
set_option maxRecDepth 20000 in
theorem se_Mo_kind : Cond.selects "HiddenRowsModel" y_Mo_kind y_Mo_kind ∈ ab_tbl := (ab_mem (List.mem_append_right _ (List.mem_of_getElem? (i := 744) rfl)) rfl)
set_option maxRecDepth 20000 in
theorem fb_Mo_rule : ab_B y_Mo_rule b_Mo_rule 6 (some .int) 4 := ⟨(ab_mem (List.mem_append_right _ (List.mem_of_getElem? (i := 749) rfl)) rfl), in_Mo, by decide +kernel⟩
set_option maxRecDepth 20000 in
theorem im_Mo_rule : Cond.instanceMethod y_Mo_rule ∈ ab_tbl := (ab_mem (List.mem_append_right _ (List.mem_of_getElem? (i := 747) rfl)) rfl)
set_option maxRecDepth 20000 in
theorem se_Mo_rule : Cond.selects "HiddenRowsModel" y_Mo_rule y_Mo_rule ∈ ab_tbl := (ab_mem (List.mem_append_right _ (List.mem_of_getElem? (i := 748) rfl)) rfl)
set_option maxRecDepth 20000 in
theorem fb_Mo_isKind : ab_B y_Mo_isKind b_Mo_isKind 2 (some .boolean) 1 := ⟨(ab_mem (List.mem_append_right _ (List.mem_of_getElem? (i := 753) rfl)) rfl), in_Mo, by decide +kernel⟩
set_option maxRecDepth 20000 in
theorem im_Mo_isKind : Cond.instanceMethod y_Mo_isKind ∈ ab_tbl := (ab_mem (List.mem_append_right _ (List.mem_of_getElem? (i := 752) rfl)) rfl)
theorem se_Mo_isKind : Cond.selects "HiddenRowsModel" y_Mo_isKind y_Mo_isKind ∈ ab_tbl := (ab_mem (List.mem_append_left _ (List.mem_of_getElem? (i := 30) rfl)) rfl)
set_option maxRecDepth 20000 in
theorem fb_Mo_leaf : ab_B y_Mo_leaf b_Mo_leaf 5 (some .int) 3 := ⟨(ab_mem (List.mem_append_right _ (List.mem_of_getElem? (i := 757) rfl)) rfl), in_Mo, by decide +kernel⟩
set_option maxRecDepth 20000 in
theorem im_Mo_leaf : Cond.instanceMethod y_Mo_leaf ∈ ab_tbl := (ab_mem (List.mem_append_right _ (List.mem_of_getElem? (i := 755) rfl)) rfl)
set_option maxRecDepth 20000 in
theorem se_Mo_leaf : Cond.selects "HiddenRowsModel" y_Mo_leaf y_Mo_leaf ∈ ab_tbl := (ab_mem (List.mem_append_right _ (List.mem_of_getElem? (i := 756) rfl)) rfl)
set_option maxRecDepth 20000 in
theorem fb_Mo_sign : ab_B y_Mo_sign b_Mo_sign 2 (some .int) 1 := ⟨(ab_mem (List.mem_append_right _ (List.mem_of_getElem? (i := 761) rfl)) rfl), in_Mo, by decide +kernel⟩
set_option maxRecDepth 20000 in
theorem im_Mo_sign : Cond.instanceMethod y_Mo_sign ∈ ab_tbl := (ab_mem (List.mem_append_right _ (List.mem_of_getElem? (i := 759) rfl)) rfl)
set_option maxRecDepth 20000 in
theorem se_Mo_sign : Cond.selects "HiddenRowsModel" y_Mo_sign y_Mo_sign ∈ ab_tbl := (ab_mem (List.mem_append_right _ (List.mem_of_getElem? (i := 760) rfl)) rfl)
set_option maxRecDepth 20000 in
theorem fb_Mo_clear : ab_B y_Mo_clear b_Mo_clear 2 (some .int) 0 := ⟨(ab_mem (List.mem_append_right _ (List.mem_of_getElem? (i := 765) rfl)) rfl), in_Mo, by decide +kernel⟩
set_option maxRecDepth 20000 in
theorem im_Mo_clear : Cond.instanceMethod y_Mo_clear ∈ ab_tbl := (ab_mem (List.mem_append_right _ (List.mem_of_getElem? (i := 763) rfl)) rfl)
set_option maxRecDepth 20000 in
theorem se_Mo_clear : Cond.selects "HiddenRowsModel" y_Mo_clear y_Mo_clear ∈ ab_tbl := (ab_mem (List.mem_append_right _ (List.mem_of_getElem? (i := 764) rfl)) rfl)
set_option maxRecDepth 20000 in
theorem fb_Mo_hold : ab_B y_Mo_hold b_Mo_hold 4 (some .int) 2 := ⟨(ab_mem (List.mem_append_right _ (List.mem_of_getElem? (i := 769) rfl)) rfl), in_Mo, by decide +kernel⟩
set_option maxRecDepth 20000 in
theorem im_Mo_hold : Cond.instanceMethod y_Mo_hold ∈ ab_tbl := (ab_mem (List.mem_append_right _ (List.mem_of_getElem? (i := 767) rfl)) rfl)
set_option maxRecDepth 20000 in
theorem se_Mo_hold : Cond.selects "HiddenRowsModel" y_Mo_hold y_Mo_hold ∈ ab_tbl := (ab_mem (List.mem_append_right _ (List.mem_of_getElem? (i := 768) rfl)) rfl)
set_option maxRecDepth 20000 in
theorem fb_Mo_isPlace : ab_B y_Mo_isPlace b_Mo_isPlace 2 (some .boolean) 1 := ⟨(ab_mem (List.mem_append_right _ (List.mem_of_getElem? (i := 773) rfl)) rfl), in_Mo, by decide +kernel⟩
set_option maxRecDepth 20000 in
theorem im_Mo_isPlace : Cond.instanceMethod y_Mo_isPlace ∈ ab_tbl := (ab_mem (List.mem_append_right _ (List.mem_of_getElem? (i := 772) rfl)) rfl)
theorem se_Mo_isPlace : Cond.selects "HiddenRowsModel" y_Mo_isPlace y_Mo_isPlace ∈ ab_tbl := (ab_mem (List.mem_append_left _ (List.mem_of_getElem? (i := 31) rfl)) rfl)
set_option maxRecDepth 20000 in
theorem fb_Mo_total : ab_B y_Mo_total b_Mo_total 1 (some .long) 0 := ⟨(ab_mem (List.mem_append_right _ (List.mem_of_getElem? (i := 777) rfl)) rfl), in_Mo, by decide +kernel⟩
set_option maxRecDepth 20000 in
theorem im_Mo_total : Cond.instanceMethod y_Mo_total ∈ ab_tbl := (ab_mem (List.mem_append_right _ (List.mem_of_getElem? (i := 775) rfl)) rfl)
set_option maxRecDepth 20000 in
theorem se_Mo_total : Cond.selects "HiddenRowsModel" y_Mo_total y_Mo_total ∈ ab_tbl := (ab_mem (List.mem_append_right _ (List.mem_of_getElem? (i := 776) rfl)) rfl)
set_option maxRecDepth 20000 in
theorem fb_Mo_know : ab_B y_Mo_know b_Mo_know 4 none 0 := ⟨(ab_mem (List.mem_append_right _ (List.mem_of_getElem? (i := 781) rfl)) rfl), in_Mo, by decide +kernel⟩
set_option maxRecDepth 20000 in
theorem im_Mo_know : Cond.instanceMethod y_Mo_know ∈ ab_tbl := (ab_mem (List.mem_append_right _ (List.mem_of_getElem? (i := 780) rfl)) rfl)
theorem se_Mo_know : Cond.selects "HiddenRowsModel" y_Mo_know y_Mo_know ∈ ab_tbl := (ab_mem (List.mem_append_left _ (List.mem_of_getElem? (i := 32) rfl)) rfl)
set_option maxRecDepth 20000 in
theorem fb_Mo_next : ab_B y_Mo_next b_Mo_next 4 (some .boolean) 1 := ⟨(ab_mem (List.mem_append_right _ (List.mem_of_getElem? (i := 785) rfl)) rfl), in_Mo, by decide +kernel⟩
set_option maxRecDepth 20000 in
theorem im_Mo_next : Cond.instanceMethod y_Mo_next ∈ ab_tbl := (ab_mem (List.mem_append_right _ (List.mem_of_getElem? (i := 784) rfl)) rfl)
theorem se_Mo_next : Cond.selects "HiddenRowsModel" y_Mo_next y_Mo_next ∈ ab_tbl := (ab_mem (List.mem_append_left _ (List.mem_of_getElem? (i := 33) rfl)) rfl)
set_option maxRecDepth 20000 in
theorem fb_Mo_canBe : ab_B y_Mo_canBe b_Mo_canBe 3 (some .boolean) 2 := ⟨(ab_mem (List.mem_append_right _ (List.mem_of_getElem? (i := 789) rfl)) rfl), in_Mo, by decide +kernel⟩
set_option maxRecDepth 20000 in
theorem im_Mo_canBe : Cond.instanceMethod y_Mo_canBe ∈ ab_tbl := (ab_mem (List.mem_append_right _ (List.mem_of_getElem? (i := 788) rfl)) rfl)
theorem se_Mo_canBe : Cond.selects "HiddenRowsModel" y_Mo_canBe y_Mo_canBe ∈ ab_tbl := (ab_mem (List.mem_append_left _ (List.mem_of_getElem? (i := 34) rfl)) rfl)
set_option maxRecDepth 20000 in
theorem fb_Mo_stay : ab_B y_Mo_stay b_Mo_stay 4 (some .int) 1 := ⟨(ab_mem (List.mem_append_right _ (List.mem_of_getElem? (i := 793) rfl)) rfl), in_Mo, by decide +kernel⟩
set_option maxRecDepth 20000 in
theorem im_Mo_stay : Cond.instanceMethod y_Mo_stay ∈ ab_tbl := (ab_mem (List.mem_append_right _ (List.mem_of_getElem? (i := 792) rfl)) rfl)
theorem se_Mo_stay : Cond.selects "HiddenRowsModel" y_Mo_stay y_Mo_stay ∈ ab_tbl := (ab_mem (List.mem_append_left _ (List.mem_of_getElem? (i := 35) rfl)) rfl)
set_option maxRecDepth 20000 in
theorem fb_Mo_weightOf : ab_B y_Mo_weightOf b_Mo_weightOf 6 (some .long) 0 := ⟨(ab_mem (List.mem_append_right _ (List.mem_of_getElem? (i := 797) rfl)) rfl), in_Mo, by decide +kernel⟩
set_option maxRecDepth 20000 in
theorem im_Mo_weightOf : Cond.instanceMethod y_Mo_weightOf ∈ ab_tbl := (ab_mem (List.mem_append_right _ (List.mem_of_getElem? (i := 796) rfl)) rfl)
theorem se_Mo_weightOf : Cond.selects "HiddenRowsModel" y_Mo_weightOf y_Mo_weightOf ∈ ab_tbl := (ab_mem (List.mem_append_left _ (List.mem_of_getElem? (i := 36) rfl)) rfl)
set_option maxRecDepth 20000 in
theorem fb_Mo_show : ab_B y_Mo_show b_Mo_show 5 (some .int) 2 := ⟨(ab_mem (List.mem_append_right _ (List.mem_of_getElem? (i := 801) rfl)) rfl), in_Mo, by decide +kernel⟩
set_option maxRecDepth 20000 in
theorem im_Mo_show : Cond.instanceMethod y_Mo_show ∈ ab_tbl := (ab_mem (List.mem_append_right _ (List.mem_of_getElem? (i := 800) rfl)) rfl)
theorem se_Mo_show : Cond.selects "HiddenRowsModel" y_Mo_show y_Mo_show ∈ ab_tbl := (ab_mem (List.mem_append_left _ (List.mem_of_getElem? (i := 37) rfl)) rfl)
set_option maxRecDepth 20000 in
theorem fb_Mo_add : ab_B y_Mo_add b_Mo_add 5 none 1 := ⟨(ab_mem (List.mem_append_right _ (List.mem_of_getElem? (i := 805) rfl)) rfl), in_Mo, by decide +kernel⟩
set_option maxRecDepth 20000 in
theorem im_Mo_add : Cond.instanceMethod y_Mo_add ∈ ab_tbl := (ab_mem (List.mem_append_right _ (List.mem_of_getElem? (i := 804) rfl)) rfl)
theorem se_Mo_add : Cond.selects "HiddenRowsModel" y_Mo_add y_Mo_add ∈ ab_tbl := (ab_mem (List.mem_append_left _ (List.mem_of_getElem? (i := 38) rfl)) rfl)
set_option maxRecDepth 20000 in
theorem fb_Mo_keep : ab_B y_Mo_keep b_Mo_keep 5 none 1 := ⟨(ab_mem (List.mem_append_right _ (List.mem_of_getElem? (i := 809) rfl)) rfl), in_Mo, by decide +kernel⟩
set_option maxRecDepth 20000 in
theorem im_Mo_keep : Cond.instanceMethod y_Mo_keep ∈ ab_tbl := (ab_mem (List.mem_append_right _ (List.mem_of_getElem? (i := 808) rfl)) rfl)
theorem se_Mo_keep : Cond.selects "HiddenRowsModel" y_Mo_keep y_Mo_keep ∈ ab_tbl := (ab_mem (List.mem_append_left _ (List.mem_of_getElem? (i := 39) rfl)) rfl)
set_option maxRecDepth 20000 in
theorem fb_Mo_ways : ab_B y_Mo_ways b_Mo_ways 1 (some .int) 0 := ⟨(ab_mem (List.mem_append_right _ (List.mem_of_getElem? (i := 813) rfl)) rfl), in_Mo, by decide +kernel⟩
set_option maxRecDepth 20000 in
theorem im_Mo_ways : Cond.instanceMethod y_Mo_ways ∈ ab_tbl := (ab_mem (List.mem_append_right _ (List.mem_of_getElem? (i := 811) rfl)) rfl)
set_option maxRecDepth 20000 in
theorem se_Mo_ways : Cond.selects "HiddenRowsModel" y_Mo_ways y_Mo_ways ∈ ab_tbl := (ab_mem (List.mem_append_right _ (List.mem_of_getElem? (i := 812) rfl)) rfl)
set_option maxRecDepth 20000 in
theorem fb_Mo_share : ab_B y_Mo_share b_Mo_share 4 (some .long) 3 := ⟨(ab_mem (List.mem_append_right _ (List.mem_of_getElem? (i := 817) rfl)) rfl), in_Mo, by decide +kernel⟩
set_option maxRecDepth 20000 in
theorem im_Mo_share : Cond.instanceMethod y_Mo_share ∈ ab_tbl := (ab_mem (List.mem_append_right _ (List.mem_of_getElem? (i := 815) rfl)) rfl)
set_option maxRecDepth 20000 in
theorem se_Mo_share : Cond.selects "HiddenRowsModel" y_Mo_share y_Mo_share ∈ ab_tbl := (ab_mem (List.mem_append_right _ (List.mem_of_getElem? (i := 816) rfl)) rfl)
set_option maxRecDepth 20000 in
theorem fb_Mo_lowest : ab_B y_Mo_lowest b_Mo_lowest 7 (some .long) 3 := ⟨(ab_mem (List.mem_append_right _ (List.mem_of_getElem? (i := 823) rfl)) rfl), in_Mo, by decide +kernel⟩
set_option maxRecDepth 20000 in
theorem sm_Mo_lowest : Cond.static y_Mo_lowest ∈ ab_tbl := (ab_mem (List.mem_append_right _ (List.mem_of_getElem? (i := 822) rfl)) rfl)
set_option maxRecDepth 20000 in
theorem fb_Mo_common : ab_B y_Mo_common b_Mo_common 10 (some .long) 2 := ⟨(ab_mem (List.mem_append_right _ (List.mem_of_getElem? (i := 826) rfl)) rfl), in_Mo, by decide +kernel⟩
set_option maxRecDepth 20000 in
theorem sm_Mo_common : Cond.static y_Mo_common ∈ ab_tbl := (ab_mem (List.mem_append_right _ (List.mem_of_getElem? (i := 825) rfl)) rfl)
set_option maxRecDepth 20000 in
theorem fb_Mo_begin : ab_B y_Mo_begin b_Mo_begin 4 (some .long) 3 := ⟨(ab_mem (List.mem_append_right _ (List.mem_of_getElem? (i := 830) rfl)) rfl), in_Mo, by decide +kernel⟩
set_option maxRecDepth 20000 in
theorem im_Mo_begin : Cond.instanceMethod y_Mo_begin ∈ ab_tbl := (ab_mem (List.mem_append_right _ (List.mem_of_getElem? (i := 828) rfl)) rfl)
set_option maxRecDepth 20000 in
theorem se_Mo_begin : Cond.selects "HiddenRowsModel" y_Mo_begin y_Mo_begin ∈ ab_tbl := (ab_mem (List.mem_append_right _ (List.mem_of_getElem? (i := 829) rfl)) rfl)
set_option maxRecDepth 20000 in
theorem fb_Mo_pair : ab_B y_Mo_pair b_Mo_pair 5 (some .long) 4 := ⟨(ab_mem (List.mem_append_right _ (List.mem_of_getElem? (i := 834) rfl)) rfl), in_Mo, by decide +kernel⟩
set_option maxRecDepth 20000 in
theorem im_Mo_pair : Cond.instanceMethod y_Mo_pair ∈ ab_tbl := (ab_mem (List.mem_append_right _ (List.mem_of_getElem? (i := 832) rfl)) rfl)
set_option maxRecDepth 20000 in
theorem se_Mo_pair : Cond.selects "HiddenRowsModel" y_Mo_pair y_Mo_pair ∈ ab_tbl := (ab_mem (List.mem_append_right _ (List.mem_of_getElem? (i := 833) rfl)) rfl)
set_option maxRecDepth 20000 in
theorem fb_Mo_top : ab_B y_Mo_top b_Mo_top 4 (some .int) 1 := ⟨(ab_mem (List.mem_append_right _ (List.mem_of_getElem? (i := 838) rfl)) rfl), in_Mo, by decide +kernel⟩
set_option maxRecDepth 20000 in
theorem im_Mo_top : Cond.instanceMethod y_Mo_top ∈ ab_tbl := (ab_mem (List.mem_append_right _ (List.mem_of_getElem? (i := 836) rfl)) rfl)
set_option maxRecDepth 20000 in
theorem se_Mo_top : Cond.selects "HiddenRowsModel" y_Mo_top y_Mo_top ∈ ab_tbl := (ab_mem (List.mem_append_right _ (List.mem_of_getElem? (i := 837) rfl)) rfl)
set_option maxRecDepth 20000 in
theorem fb_Mo_best : ab_B y_Mo_best b_Mo_best 2 (some .long) 1 := ⟨(ab_mem (List.mem_append_right _ (List.mem_of_getElem? (i := 842) rfl)) rfl), in_Mo, by decide +kernel⟩
set_option maxRecDepth 20000 in
theorem im_Mo_best : Cond.instanceMethod y_Mo_best ∈ ab_tbl := (ab_mem (List.mem_append_right _ (List.mem_of_getElem? (i := 840) rfl)) rfl)
set_option maxRecDepth 20000 in
theorem se_Mo_best : Cond.selects "HiddenRowsModel" y_Mo_best y_Mo_best ∈ ab_tbl := (ab_mem (List.mem_append_right _ (List.mem_of_getElem? (i := 841) rfl)) rfl)
set_option maxRecDepth 20000 in
theorem fb_Mo_bestAt : ab_B y_Mo_bestAt b_Mo_bestAt 3 (some .int) 2 := ⟨(ab_mem (List.mem_append_right _ (List.mem_of_getElem? (i := 846) rfl)) rfl), in_Mo, by decide +kernel⟩
set_option maxRecDepth 20000 in
theorem im_Mo_bestAt : Cond.instanceMethod y_Mo_bestAt ∈ ab_tbl := (ab_mem (List.mem_append_right _ (List.mem_of_getElem? (i := 844) rfl)) rfl)
set_option maxRecDepth 20000 in
theorem se_Mo_bestAt : Cond.selects "HiddenRowsModel" y_Mo_bestAt y_Mo_bestAt ∈ ab_tbl := (ab_mem (List.mem_append_right _ (List.mem_of_getElem? (i := 845) rfl)) rfl)
set_option maxRecDepth 20000 in
theorem fb_Mo_drawn : ab_B y_Mo_drawn b_Mo_drawn 11 (some .long) 1 := ⟨(ab_mem (List.mem_append_right _ (List.mem_of_getElem? (i := 850) rfl)) rfl), in_Mo, by decide +kernel⟩
set_option maxRecDepth 20000 in
theorem im_Mo_drawn : Cond.instanceMethod y_Mo_drawn ∈ ab_tbl := (ab_mem (List.mem_append_right _ (List.mem_of_getElem? (i := 848) rfl)) rfl)
set_option maxRecDepth 20000 in
theorem se_Mo_drawn : Cond.selects "HiddenRowsModel" y_Mo_drawn y_Mo_drawn ∈ ab_tbl := (ab_mem (List.mem_append_right _ (List.mem_of_getElem? (i := 849) rfl)) rfl)
set_option maxRecDepth 20000 in
theorem fb_Mo_drawnAt : ab_B y_Mo_drawnAt b_Mo_drawnAt 2 (some .int) 1 := ⟨(ab_mem (List.mem_append_right _ (List.mem_of_getElem? (i := 857) rfl)) rfl), in_Mo, by decide +kernel⟩
set_option maxRecDepth 20000 in
theorem im_Mo_drawnAt : Cond.instanceMethod y_Mo_drawnAt ∈ ab_tbl := (ab_mem (List.mem_append_right _ (List.mem_of_getElem? (i := 855) rfl)) rfl)
set_option maxRecDepth 20000 in
theorem se_Mo_drawnAt : Cond.selects "HiddenRowsModel" y_Mo_drawnAt y_Mo_drawnAt ∈ ab_tbl := (ab_mem (List.mem_append_right _ (List.mem_of_getElem? (i := 856) rfl)) rfl)
set_option maxRecDepth 20000 in
theorem fb_Mo_trees : ab_B y_Mo_trees b_Mo_trees 2 (some .long) 1 := ⟨(ab_mem (List.mem_append_right _ (List.mem_of_getElem? (i := 861) rfl)) rfl), in_Mo, by decide +kernel⟩
set_option maxRecDepth 20000 in
theorem im_Mo_trees : Cond.instanceMethod y_Mo_trees ∈ ab_tbl := (ab_mem (List.mem_append_right _ (List.mem_of_getElem? (i := 859) rfl)) rfl)
set_option maxRecDepth 20000 in
theorem se_Mo_trees : Cond.selects "HiddenRowsModel" y_Mo_trees y_Mo_trees ∈ ab_tbl := (ab_mem (List.mem_append_right _ (List.mem_of_getElem? (i := 860) rfl)) rfl)
set_option maxRecDepth 20000 in
theorem fb_Mo_findTrees : ab_B y_Mo_findTrees b_Mo_findTrees 8 none 3 := ⟨(ab_mem (List.mem_append_right _ (List.mem_of_getElem? (i := 865) rfl)) rfl), in_Mo, by decide +kernel⟩
set_option maxRecDepth 20000 in
theorem im_Mo_findTrees : Cond.instanceMethod y_Mo_findTrees ∈ ab_tbl := (ab_mem (List.mem_append_right _ (List.mem_of_getElem? (i := 864) rfl)) rfl)
theorem se_Mo_findTrees : Cond.selects "HiddenRowsModel" y_Mo_findTrees y_Mo_findTrees ∈ ab_tbl := (ab_mem (List.mem_append_left _ (List.mem_of_getElem? (i := 40) rfl)) rfl)
set_option maxRecDepth 20000 in
theorem fb_Mo_findSpan : ab_B y_Mo_findSpan b_Mo_findSpan 14 none 3 := ⟨(ab_mem (List.mem_append_right _ (List.mem_of_getElem? (i := 869) rfl)) rfl), in_Mo, by decide +kernel⟩
set_option maxRecDepth 20000 in
theorem im_Mo_findSpan : Cond.instanceMethod y_Mo_findSpan ∈ ab_tbl := (ab_mem (List.mem_append_right _ (List.mem_of_getElem? (i := 868) rfl)) rfl)
theorem se_Mo_findSpan : Cond.selects "HiddenRowsModel" y_Mo_findSpan y_Mo_findSpan ∈ ab_tbl := (ab_mem (List.mem_append_left _ (List.mem_of_getElem? (i := 41) rfl)) rfl)
set_option maxRecDepth 20000 in
theorem fb_Mo_at : ab_B y_Mo_at b_Mo_at 3 (some .int) 3 := ⟨(ab_mem (List.mem_append_right _ (List.mem_of_getElem? (i := 872) rfl)) rfl), in_Mo, by decide +kernel⟩
set_option maxRecDepth 20000 in
theorem sm_Mo_at : Cond.static y_Mo_at ∈ ab_tbl := (ab_mem (List.mem_append_right _ (List.mem_of_getElem? (i := 871) rfl)) rfl)
set_option maxRecDepth 20000 in
theorem fb_Mo_leafOf : ab_B y_Mo_leafOf b_Mo_leafOf 5 (some .long) 2 := ⟨(ab_mem (List.mem_append_right _ (List.mem_of_getElem? (i := 876) rfl)) rfl), in_Mo, by decide +kernel⟩
set_option maxRecDepth 20000 in
theorem im_Mo_leafOf : Cond.instanceMethod y_Mo_leafOf ∈ ab_tbl := (ab_mem (List.mem_append_right _ (List.mem_of_getElem? (i := 875) rfl)) rfl)
theorem se_Mo_leafOf : Cond.selects "HiddenRowsModel" y_Mo_leafOf y_Mo_leafOf ∈ ab_tbl := (ab_mem (List.mem_append_left _ (List.mem_of_getElem? (i := 42) rfl)) rfl)
set_option maxRecDepth 20000 in
theorem fb_Mo_whole : ab_B y_Mo_whole b_Mo_whole 2 (some .int) 1 := ⟨(ab_mem (List.mem_append_right _ (List.mem_of_getElem? (i := 880) rfl)) rfl), in_Mo, by decide +kernel⟩
set_option maxRecDepth 20000 in
theorem im_Mo_whole : Cond.instanceMethod y_Mo_whole ∈ ab_tbl := (ab_mem (List.mem_append_right _ (List.mem_of_getElem? (i := 879) rfl)) rfl)
theorem se_Mo_whole : Cond.selects "HiddenRowsModel" y_Mo_whole y_Mo_whole ∈ ab_tbl := (ab_mem (List.mem_append_left _ (List.mem_of_getElem? (i := 43) rfl)) rfl)
set_option maxRecDepth 20000 in
theorem fb_Mo_treeCount : ab_B y_Mo_treeCount b_Mo_treeCount 2 (some .long) 1 := ⟨(ab_mem (List.mem_append_right _ (List.mem_of_getElem? (i := 884) rfl)) rfl), in_Mo, by decide +kernel⟩
set_option maxRecDepth 20000 in
theorem im_Mo_treeCount : Cond.instanceMethod y_Mo_treeCount ∈ ab_tbl := (ab_mem (List.mem_append_right _ (List.mem_of_getElem? (i := 882) rfl)) rfl)
set_option maxRecDepth 20000 in
theorem se_Mo_treeCount : Cond.selects "HiddenRowsModel" y_Mo_treeCount y_Mo_treeCount ∈ ab_tbl := (ab_mem (List.mem_append_right _ (List.mem_of_getElem? (i := 883) rfl)) rfl)
set_option maxRecDepth 20000 in
theorem fb_Mo_treeBest : ab_B y_Mo_treeBest b_Mo_treeBest 4 (some .long) 1 := ⟨(ab_mem (List.mem_append_right _ (List.mem_of_getElem? (i := 888) rfl)) rfl), in_Mo, by decide +kernel⟩
set_option maxRecDepth 20000 in
theorem im_Mo_treeBest : Cond.instanceMethod y_Mo_treeBest ∈ ab_tbl := (ab_mem (List.mem_append_right _ (List.mem_of_getElem? (i := 886) rfl)) rfl)
set_option maxRecDepth 20000 in
theorem se_Mo_treeBest : Cond.selects "HiddenRowsModel" y_Mo_treeBest y_Mo_treeBest ∈ ab_tbl := (ab_mem (List.mem_append_right _ (List.mem_of_getElem? (i := 887) rfl)) rfl)
set_option maxRecDepth 20000 in
theorem fb_Mo_treeAt : ab_B y_Mo_treeAt b_Mo_treeAt 11 (some .int) 2 := ⟨(ab_mem (List.mem_append_right _ (List.mem_of_getElem? (i := 893) rfl)) rfl), in_Mo, by decide +kernel⟩
set_option maxRecDepth 20000 in
theorem im_Mo_treeAt : Cond.instanceMethod y_Mo_treeAt ∈ ab_tbl := (ab_mem (List.mem_append_right _ (List.mem_of_getElem? (i := 891) rfl)) rfl)
set_option maxRecDepth 20000 in
theorem se_Mo_treeAt : Cond.selects "HiddenRowsModel" y_Mo_treeAt y_Mo_treeAt ∈ ab_tbl := (ab_mem (List.mem_append_right _ (List.mem_of_getElem? (i := 892) rfl)) rfl)
set_option maxRecDepth 20000 in
theorem fb_Mo_leastOf : ab_B y_Mo_leastOf b_Mo_leastOf 9 (some .int) 3 := ⟨(ab_mem (List.mem_append_right _ (List.mem_of_getElem? (i := 897) rfl)) rfl), in_Mo, by decide +kernel⟩
set_option maxRecDepth 20000 in
theorem im_Mo_leastOf : Cond.instanceMethod y_Mo_leastOf ∈ ab_tbl := (ab_mem (List.mem_append_right _ (List.mem_of_getElem? (i := 896) rfl)) rfl)
theorem se_Mo_leastOf : Cond.selects "HiddenRowsModel" y_Mo_leastOf y_Mo_leastOf ∈ ab_tbl := (ab_mem (List.mem_append_left _ (List.mem_of_getElem? (i := 44) rfl)) rfl)
set_option maxRecDepth 20000 in
theorem fb_Mo_span : ab_B y_Mo_span b_Mo_span 10 (some .long) 5 := ⟨(ab_mem (List.mem_append_right _ (List.mem_of_getElem? (i := 901) rfl)) rfl), in_Mo, by decide +kernel⟩
set_option maxRecDepth 20000 in
theorem im_Mo_span : Cond.instanceMethod y_Mo_span ∈ ab_tbl := (ab_mem (List.mem_append_right _ (List.mem_of_getElem? (i := 899) rfl)) rfl)
set_option maxRecDepth 20000 in
theorem se_Mo_span : Cond.selects "HiddenRowsModel" y_Mo_span y_Mo_span ∈ ab_tbl := (ab_mem (List.mem_append_right _ (List.mem_of_getElem? (i := 900) rfl)) rfl)
theorem sm_Jm_max : Cond.static Lib.Math.max.name ∈ ab_tbl := (ab_mem (List.mem_append_right _ (List.mem_of_getElem? (i := 427) rfl)) rfl)
theorem co_Jm_max : Cond.code Lib.Math.max.name Lib.Math.max.code 2 (some .int) ∈ ab_tbl := (ab_mem (List.mem_append_right _ (List.mem_of_getElem? (i := 428) rfl)) rfl)
set_option maxRecDepth 20000 in
theorem sm_Jm_min : Cond.static Lib.Math.min.name ∈ ab_tbl := (ab_mem (List.mem_append_right _ (List.mem_of_getElem? (i := 483) rfl)) rfl)
set_option maxRecDepth 20000 in
theorem co_Jm_min : Cond.code Lib.Math.min.name Lib.Math.min.code 2 (some .int) ∈ ab_tbl := (ab_mem (List.mem_append_right _ (List.mem_of_getElem? (i := 484) rfl)) rfl)
set_option maxRecDepth 20000 in
theorem sm_Jm_lmax : Cond.static Lib.MathLoose.max_long.x ∈ ab_tbl := (ab_mem (List.mem_append_right _ (List.mem_of_getElem? (i := 577) rfl)) rfl)
set_option maxRecDepth 20000 in
theorem co_Jm_lmax : Cond.code Lib.MathLoose.max_long.x Lib.MathLoose.max_long.code 4 (some .long) ∈ ab_tbl := (ab_mem (List.mem_append_right _ (List.mem_of_getElem? (i := 578) rfl)) rfl)
set_option maxRecDepth 20000 in
theorem sm_Jm_lmin : Cond.static Lib.MathLoose.min_long.x ∈ ab_tbl := (ab_mem (List.mem_append_right _ (List.mem_of_getElem? (i := 569) rfl)) rfl)
set_option maxRecDepth 20000 in
theorem co_Jm_lmin : Cond.code Lib.MathLoose.min_long.x Lib.MathLoose.min_long.code 4 (some .long) ∈ ab_tbl := (ab_mem (List.mem_append_right _ (List.mem_of_getElem? (i := 570) rfl)) rfl)
theorem in_Jm : Cond.initialized "java/lang/Math" ∈ ab_tbl := (ab_mem (List.mem_append_right _ (List.mem_of_getElem? (i := 11) rfl)) rfl)
end
section
theorem d_Ro_init_0 : decode b_Ro_init 0 = .ok (.aload_n 0, 1) := by decide +kernel
theorem d_Ro_init_1 : decode b_Ro_init 1 = .ok (.invokespecial 3, 3) := by decide +kernel
theorem d_Ro_init_4 : decode b_Ro_init 4 = .ok (.aload_n 0, 1) := by decide +kernel
theorem d_Ro_init_5 : decode b_Ro_init 5 = .ok (.bipush 6, 2) := by decide +kernel
theorem d_Ro_init_7 : decode b_Ro_init 7 = .ok (.newarray .int, 2) := by decide +kernel
theorem d_Ro_init_9 : decode b_Ro_init 9 = .ok (.putfield 9, 3) := by decide +kernel
theorem d_Ro_init_12 : decode b_Ro_init 12 = .ok (.aload_n 0, 1) := by decide +kernel
theorem d_Ro_init_13 : decode b_Ro_init 13 = .ok (.bipush 6, 2) := by decide +kernel
theorem d_Ro_init_15 : decode b_Ro_init 15 = .ok (.newarray .int, 2) := by decide +kernel
theorem d_Ro_init_17 : decode b_Ro_init 17 = .ok (.putfield 15, 3) := by decide +kernel
theorem d_Ro_init_20 : decode b_Ro_init 20 = .ok (.aload_n 0, 1) := by decide +kernel
theorem d_Ro_init_21 : decode b_Ro_init 21 = .ok (.iconst 0, 1) := by decide +kernel
theorem d_Ro_init_22 : decode b_Ro_init 22 = .ok (.putfield 18, 3) := by decide +kernel
theorem d_Ro_init_25 : decode b_Ro_init 25 = .ok (.return_, 1) := by decide +kernel
theorem d_Ro_append_0 : decode b_Ro_append 0 = .ok (.aload_n 0, 1) := by decide +kernel
theorem d_Ro_append_1 : decode b_Ro_append 1 = .ok (.getfield 18, 3) := by decide +kernel
theorem d_Ro_append_4 : decode b_Ro_append 4 = .ok (.bipush 6, 2) := by decide +kernel
theorem d_Ro_append_6 : decode b_Ro_append 6 = .ok (.if_icmp .lt 4, 3) := by decide +kernel
theorem d_Ro_append_9 : decode b_Ro_append 9 = .ok (.return_, 1) := by decide +kernel
theorem d_Ro_append_10 : decode b_Ro_append 10 = .ok (.aload_n 0, 1) := by decide +kernel
theorem d_Ro_append_11 : decode b_Ro_append 11 = .ok (.getfield 9, 3) := by decide +kernel
theorem d_Ro_append_14 : decode b_Ro_append 14 = .ok (.aload_n 0, 1) := by decide +kernel
theorem d_Ro_append_15 : decode b_Ro_append 15 = .ok (.getfield 18, 3) := by decide +kernel
theorem d_Ro_append_18 : decode b_Ro_append 18 = .ok (.iload_n 1, 1) := by decide +kernel
theorem d_Ro_append_19 : decode b_Ro_append 19 = .ok (.iastore, 1) := by decide +kernel
theorem d_Ro_append_20 : decode b_Ro_append 20 = .ok (.aload_n 0, 1) := by decide +kernel
theorem d_Ro_append_21 : decode b_Ro_append 21 = .ok (.getfield 15, 3) := by decide +kernel
theorem d_Ro_append_24 : decode b_Ro_append 24 = .ok (.aload_n 0, 1) := by decide +kernel
theorem d_Ro_append_25 : decode b_Ro_append 25 = .ok (.getfield 18, 3) := by decide +kernel
theorem d_Ro_append_28 : decode b_Ro_append 28 = .ok (.iconst (-1), 1) := by decide +kernel
theorem d_Ro_append_29 : decode b_Ro_append 29 = .ok (.iastore, 1) := by decide +kernel
theorem d_Ro_append_30 : decode b_Ro_append 30 = .ok (.aload_n 0, 1) := by decide +kernel
theorem d_Ro_append_31 : decode b_Ro_append 31 = .ok (.dup, 1) := by decide +kernel
theorem d_Ro_append_32 : decode b_Ro_append 32 = .ok (.getfield 18, 3) := by decide +kernel
theorem d_Ro_append_35 : decode b_Ro_append 35 = .ok (.iconst 1, 1) := by decide +kernel
theorem d_Ro_append_36 : decode b_Ro_append 36 = .ok (.iadd, 1) := by decide +kernel
theorem d_Ro_append_37 : decode b_Ro_append 37 = .ok (.putfield 18, 3) := by decide +kernel
theorem d_Ro_append_40 : decode b_Ro_append 40 = .ok (.return_, 1) := by decide +kernel
theorem d_Ro_has_0 : decode b_Ro_has 0 = .ok (.iload_n 1, 1) := by decide +kernel
theorem d_Ro_has_1 : decode b_Ro_has 1 = .ok (.ifCond .lt 21, 3) := by decide +kernel
theorem d_Ro_has_4 : decode b_Ro_has 4 = .ok (.iload_n 1, 1) := by decide +kernel
theorem d_Ro_has_5 : decode b_Ro_has 5 = .ok (.aload_n 0, 1) := by decide +kernel
theorem d_Ro_has_6 : decode b_Ro_has 6 = .ok (.getfield 18, 3) := by decide +kernel
theorem d_Ro_has_9 : decode b_Ro_has 9 = .ok (.if_icmp .ge 13, 3) := by decide +kernel
theorem d_Ro_has_12 : decode b_Ro_has 12 = .ok (.iload_n 1, 1) := by decide +kernel
theorem d_Ro_has_13 : decode b_Ro_has 13 = .ok (.bipush 6, 2) := by decide +kernel
theorem d_Ro_has_15 : decode b_Ro_has 15 = .ok (.if_icmp .ge 7, 3) := by decide +kernel
theorem d_Ro_has_18 : decode b_Ro_has 18 = .ok (.iconst 1, 1) := by decide +kernel
theorem d_Ro_has_19 : decode b_Ro_has 19 = .ok (.goto 4, 3) := by decide +kernel
theorem d_Ro_has_22 : decode b_Ro_has 22 = .ok (.iconst 0, 1) := by decide +kernel
theorem d_Ro_has_23 : decode b_Ro_has 23 = .ok (.ireturn, 1) := by decide +kernel
theorem d_Ro_toldAt_0 : decode b_Ro_toldAt 0 = .ok (.iload_n 1, 1) := by decide +kernel
theorem d_Ro_toldAt_1 : decode b_Ro_toldAt 1 = .ok (.iconst 3, 1) := by decide +kernel
theorem d_Ro_toldAt_2 : decode b_Ro_toldAt 2 = .ok (.aload_n 0, 1) := by decide +kernel
theorem d_Ro_toldAt_3 : decode b_Ro_toldAt 3 = .ok (.getfield 18, 3) := by decide +kernel
theorem d_Ro_toldAt_6 : decode b_Ro_toldAt 6 = .ok (.iconst 1, 1) := by decide +kernel
theorem d_Ro_toldAt_7 : decode b_Ro_toldAt 7 = .ok (.isub, 1) := by decide +kernel
theorem d_Ro_toldAt_8 : decode b_Ro_toldAt 8 = .ok (.iload_n 2, 1) := by decide +kernel
theorem d_Ro_toldAt_9 : decode b_Ro_toldAt 9 = .ok (.isub, 1) := by decide +kernel
theorem d_Ro_toldAt_10 : decode b_Ro_toldAt 10 = .ok (.imul, 1) := by decide +kernel
theorem d_Ro_toldAt_11 : decode b_Ro_toldAt 11 = .ok (.ishr, 1) := by decide +kernel
theorem d_Ro_toldAt_12 : decode b_Ro_toldAt 12 = .ok (.bipush 7, 2) := by decide +kernel
theorem d_Ro_toldAt_14 : decode b_Ro_toldAt 14 = .ok (.iand, 1) := by decide +kernel
theorem d_Ro_toldAt_15 : decode b_Ro_toldAt 15 = .ok (.ireturn, 1) := by decide +kernel
end
section
theorem d_St_init_0 : decode b_St_init 0 = .ok (.aload_n 0, 1) := by decide +kernel
theorem d_St_init_1 : decode b_St_init 1 = .ok (.invokespecial 3, 3) := by decide +kernel
theorem d_St_init_4 : decode b_St_init 4 = .ok (.aload_n 0, 1) := by decide +kernel
theorem d_St_init_5 : decode b_St_init 5 = .ok (.iconst 4, 1) := by decide +kernel
theorem d_St_init_6 : decode b_St_init 6 = .ok (.bipush 9, 2) := by decide +kernel
theorem d_St_init_8 : decode b_St_init 8 = .ok (.multianewarray 9 2, 4) := by decide +kernel
theorem d_St_init_12 : decode b_St_init 12 = .ok (.putfield 11, 3) := by decide +kernel
theorem d_St_init_15 : decode b_St_init 15 = .ok (.aload_n 0, 1) := by decide +kernel
theorem d_St_init_16 : decode b_St_init 16 = .ok (.iconst 4, 1) := by decide +kernel
theorem d_St_init_17 : decode b_St_init 17 = .ok (.iconst 4, 1) := by decide +kernel
theorem d_St_init_18 : decode b_St_init 18 = .ok (.multianewarray 9 2, 4) := by decide +kernel
theorem d_St_init_22 : decode b_St_init 22 = .ok (.putfield 16, 3) := by decide +kernel
theorem d_St_init_25 : decode b_St_init 25 = .ok (.aload_n 0, 1) := by decide +kernel
theorem d_St_init_26 : decode b_St_init 26 = .ok (.iconst 0, 1) := by decide +kernel
theorem d_St_init_27 : decode b_St_init 27 = .ok (.putfield 19, 3) := by decide +kernel
theorem d_St_init_30 : decode b_St_init 30 = .ok (.return_, 1) := by decide +kernel
theorem d_St_addOne_0 : decode b_St_addOne 0 = .ok (.aload_n 0, 1) := by decide +kernel
theorem d_St_addOne_1 : decode b_St_addOne 1 = .ok (.getfield 19, 3) := by decide +kernel
theorem d_St_addOne_4 : decode b_St_addOne 4 = .ok (.iconst 4, 1) := by decide +kernel
theorem d_St_addOne_5 : decode b_St_addOne 5 = .ok (.if_icmp .lt 6, 3) := by decide +kernel
theorem d_St_addOne_8 : decode b_St_addOne 8 = .ok (.bipush (-4), 2) := by decide +kernel
theorem d_St_addOne_10 : decode b_St_addOne 10 = .ok (.ireturn, 1) := by decide +kernel
theorem d_St_addOne_11 : decode b_St_addOne 11 = .ok (.aload_n 0, 1) := by decide +kernel
theorem d_St_addOne_12 : decode b_St_addOne 12 = .ok (.getfield 11, 3) := by decide +kernel
theorem d_St_addOne_15 : decode b_St_addOne 15 = .ok (.aload_n 0, 1) := by decide +kernel
theorem d_St_addOne_16 : decode b_St_addOne 16 = .ok (.getfield 19, 3) := by decide +kernel
theorem d_St_addOne_19 : decode b_St_addOne 19 = .ok (.aaload, 1) := by decide +kernel
theorem d_St_addOne_20 : decode b_St_addOne 20 = .ok (.iconst 0, 1) := by decide +kernel
theorem d_St_addOne_21 : decode b_St_addOne 21 = .ok (.iconst 1, 1) := by decide +kernel
theorem d_St_addOne_22 : decode b_St_addOne 22 = .ok (.iastore, 1) := by decide +kernel
theorem d_St_addOne_23 : decode b_St_addOne 23 = .ok (.aload_n 0, 1) := by decide +kernel
theorem d_St_addOne_24 : decode b_St_addOne 24 = .ok (.getfield 11, 3) := by decide +kernel
theorem d_St_addOne_27 : decode b_St_addOne 27 = .ok (.aload_n 0, 1) := by decide +kernel
theorem d_St_addOne_28 : decode b_St_addOne 28 = .ok (.getfield 19, 3) := by decide +kernel
theorem d_St_addOne_31 : decode b_St_addOne 31 = .ok (.aaload, 1) := by decide +kernel
theorem d_St_addOne_32 : decode b_St_addOne 32 = .ok (.iconst 1, 1) := by decide +kernel
theorem d_St_addOne_33 : decode b_St_addOne 33 = .ok (.iconst 1, 1) := by decide +kernel
theorem d_St_addOne_34 : decode b_St_addOne 34 = .ok (.iastore, 1) := by decide +kernel
theorem d_St_addOne_35 : decode b_St_addOne 35 = .ok (.aload_n 0, 1) := by decide +kernel
theorem d_St_addOne_36 : decode b_St_addOne 36 = .ok (.getfield 11, 3) := by decide +kernel
theorem d_St_addOne_39 : decode b_St_addOne 39 = .ok (.aload_n 0, 1) := by decide +kernel
theorem d_St_addOne_40 : decode b_St_addOne 40 = .ok (.getfield 19, 3) := by decide +kernel
theorem d_St_addOne_43 : decode b_St_addOne 43 = .ok (.aaload, 1) := by decide +kernel
theorem d_St_addOne_44 : decode b_St_addOne 44 = .ok (.iconst 2, 1) := by decide +kernel
theorem d_St_addOne_45 : decode b_St_addOne 45 = .ok (.iconst 1, 1) := by decide +kernel
theorem d_St_addOne_46 : decode b_St_addOne 46 = .ok (.iastore, 1) := by decide +kernel
theorem d_St_addOne_47 : decode b_St_addOne 47 = .ok (.aload_n 0, 1) := by decide +kernel
theorem d_St_addOne_48 : decode b_St_addOne 48 = .ok (.dup, 1) := by decide +kernel
theorem d_St_addOne_49 : decode b_St_addOne 49 = .ok (.getfield 19, 3) := by decide +kernel
theorem d_St_addOne_52 : decode b_St_addOne 52 = .ok (.iconst 1, 1) := by decide +kernel
theorem d_St_addOne_53 : decode b_St_addOne 53 = .ok (.iadd, 1) := by decide +kernel
theorem d_St_addOne_54 : decode b_St_addOne 54 = .ok (.putfield 19, 3) := by decide +kernel
theorem d_St_addOne_57 : decode b_St_addOne 57 = .ok (.aload_n 0, 1) := by decide +kernel
theorem d_St_addOne_58 : decode b_St_addOne 58 = .ok (.getfield 19, 3) := by decide +kernel
theorem d_St_addOne_61 : decode b_St_addOne 61 = .ok (.iconst 1, 1) := by decide +kernel
theorem d_St_addOne_62 : decode b_St_addOne 62 = .ok (.isub, 1) := by decide +kernel
theorem d_St_addOne_63 : decode b_St_addOne 63 = .ok (.ireturn, 1) := by decide +kernel
theorem d_St_has_0 : decode b_St_has 0 = .ok (.iload_n 1, 1) := by decide +kernel
theorem d_St_has_1 : decode b_St_has 1 = .ok (.ifCond .lt 20, 3) := by decide +kernel
theorem d_St_has_4 : decode b_St_has 4 = .ok (.iload_n 1, 1) := by decide +kernel
theorem d_St_has_5 : decode b_St_has 5 = .ok (.aload_n 0, 1) := by decide +kernel
theorem d_St_has_6 : decode b_St_has 6 = .ok (.getfield 19, 3) := by decide +kernel
theorem d_St_has_9 : decode b_St_has 9 = .ok (.if_icmp .ge 12, 3) := by decide +kernel
theorem d_St_has_12 : decode b_St_has 12 = .ok (.iload_n 1, 1) := by decide +kernel
theorem d_St_has_13 : decode b_St_has 13 = .ok (.iconst 4, 1) := by decide +kernel
theorem d_St_has_14 : decode b_St_has 14 = .ok (.if_icmp .ge 7, 3) := by decide +kernel
theorem d_St_has_17 : decode b_St_has 17 = .ok (.iconst 1, 1) := by decide +kernel
theorem d_St_has_18 : decode b_St_has 18 = .ok (.goto 4, 3) := by decide +kernel
theorem d_St_has_21 : decode b_St_has 21 = .ok (.iconst 0, 1) := by decide +kernel
theorem d_St_has_22 : decode b_St_has 22 = .ok (.ireturn, 1) := by decide +kernel
end
section
theorem d_Ws_init_0 : decode b_Ws_init 0 = .ok (.aload_n 0, 1) := by decide +kernel
theorem d_Ws_init_1 : decode b_Ws_init 1 = .ok (.invokespecial 3, 3) := by decide +kernel
theorem d_Ws_init_4 : decode b_Ws_init 4 = .ok (.aload_n 0, 1) := by decide +kernel
theorem d_Ws_init_5 : decode b_Ws_init 5 = .ok (.bipush 6, 2) := by decide +kernel
theorem d_Ws_init_7 : decode b_Ws_init 7 = .ok (.iconst 4, 1) := by decide +kernel
theorem d_Ws_init_8 : decode b_Ws_init 8 = .ok (.multianewarray 9 2, 4) := by decide +kernel
theorem d_Ws_init_12 : decode b_Ws_init 12 = .ok (.putfield 11, 3) := by decide +kernel
theorem d_Ws_init_15 : decode b_Ws_init 15 = .ok (.aload_n 0, 1) := by decide +kernel
theorem d_Ws_init_16 : decode b_Ws_init 16 = .ok (.bipush 6, 2) := by decide +kernel
theorem d_Ws_init_18 : decode b_Ws_init 18 = .ok (.iconst 4, 1) := by decide +kernel
theorem d_Ws_init_19 : decode b_Ws_init 19 = .ok (.multianewarray 9 2, 4) := by decide +kernel
theorem d_Ws_init_23 : decode b_Ws_init 23 = .ok (.putfield 16, 3) := by decide +kernel
theorem d_Ws_init_26 : decode b_Ws_init 26 = .ok (.aload_n 0, 1) := by decide +kernel
theorem d_Ws_init_27 : decode b_Ws_init 27 = .ok (.bipush 7, 2) := by decide +kernel
theorem d_Ws_init_29 : decode b_Ws_init 29 = .ok (.iconst 4, 1) := by decide +kernel
theorem d_Ws_init_30 : decode b_Ws_init 30 = .ok (.multianewarray 9 2, 4) := by decide +kernel
theorem d_Ws_init_34 : decode b_Ws_init 34 = .ok (.putfield 19, 3) := by decide +kernel
theorem d_Ws_init_37 : decode b_Ws_init 37 = .ok (.aload_n 0, 1) := by decide +kernel
theorem d_Ws_init_38 : decode b_Ws_init 38 = .ok (.bipush 7, 2) := by decide +kernel
theorem d_Ws_init_40 : decode b_Ws_init 40 = .ok (.iconst 4, 1) := by decide +kernel
theorem d_Ws_init_41 : decode b_Ws_init 41 = .ok (.multianewarray 9 2, 4) := by decide +kernel
theorem d_Ws_init_45 : decode b_Ws_init 45 = .ok (.putfield 22, 3) := by decide +kernel
theorem d_Ws_init_48 : decode b_Ws_init 48 = .ok (.aload_n 0, 1) := by decide +kernel
theorem d_Ws_init_49 : decode b_Ws_init 49 = .ok (.bipush 6, 2) := by decide +kernel
theorem d_Ws_init_51 : decode b_Ws_init 51 = .ok (.iconst 4, 1) := by decide +kernel
theorem d_Ws_init_52 : decode b_Ws_init 52 = .ok (.multianewarray 9 2, 4) := by decide +kernel
theorem d_Ws_init_56 : decode b_Ws_init 56 = .ok (.putfield 25, 3) := by decide +kernel
theorem d_Ws_init_59 : decode b_Ws_init 59 = .ok (.aload_n 0, 1) := by decide +kernel
theorem d_Ws_init_60 : decode b_Ws_init 60 = .ok (.iconst 0, 1) := by decide +kernel
theorem d_Ws_init_61 : decode b_Ws_init 61 = .ok (.putfield 28, 3) := by decide +kernel
theorem d_Ws_init_64 : decode b_Ws_init 64 = .ok (.aload_n 0, 1) := by decide +kernel
theorem d_Ws_init_65 : decode b_Ws_init 65 = .ok (.aload_n 1, 1) := by decide +kernel
theorem d_Ws_init_66 : decode b_Ws_init 66 = .ok (.putfield 32, 3) := by decide +kernel
theorem d_Ws_init_69 : decode b_Ws_init 69 = .ok (.aload_n 0, 1) := by decide +kernel
theorem d_Ws_init_70 : decode b_Ws_init 70 = .ok (.aload_n 2, 1) := by decide +kernel
theorem d_Ws_init_71 : decode b_Ws_init 71 = .ok (.putfield 36, 3) := by decide +kernel
theorem d_Ws_init_74 : decode b_Ws_init 74 = .ok (.aload_n 0, 1) := by decide +kernel
theorem d_Ws_init_75 : decode b_Ws_init 75 = .ok (.iload_n 3, 1) := by decide +kernel
theorem d_Ws_init_76 : decode b_Ws_init 76 = .ok (.putfield 40, 3) := by decide +kernel
theorem d_Ws_init_79 : decode b_Ws_init 79 = .ok (.return_, 1) := by decide +kernel
theorem d_Ws_whole_0 : decode b_Ws_whole 0 = .ok (.aload_n 0, 1) := by decide +kernel
theorem d_Ws_whole_1 : decode b_Ws_whole 1 = .ok (.invokevirtual 44, 3) := by decide +kernel
theorem d_Ws_whole_4 : decode b_Ws_whole 4 = .ok (.lconst 0, 1) := by decide +kernel
theorem d_Ws_whole_5 : decode b_Ws_whole 5 = .ok (.lstore_n 1, 1) := by decide +kernel
theorem d_Ws_whole_6 : decode b_Ws_whole 6 = .ok (.aload_n 0, 1) := by decide +kernel
theorem d_Ws_whole_7 : decode b_Ws_whole 7 = .ok (.getfield 32, 3) := by decide +kernel
theorem d_Ws_whole_10 : decode b_Ws_whole 10 = .ok (.getfield 47, 3) := by decide +kernel
theorem d_Ws_whole_13 : decode b_Ws_whole 13 = .ok (.ifCond .le 42, 3) := by decide +kernel
theorem d_Ws_whole_16 : decode b_Ws_whole 16 = .ok (.iconst 0, 1) := by decide +kernel
theorem d_Ws_whole_17 : decode b_Ws_whole 17 = .ok (.istore_n 3, 1) := by decide +kernel
theorem d_Ws_whole_18 : decode b_Ws_whole 18 = .ok (.iload_n 3, 1) := by decide +kernel
theorem d_Ws_whole_19 : decode b_Ws_whole 19 = .ok (.aload_n 0, 1) := by decide +kernel
theorem d_Ws_whole_20 : decode b_Ws_whole 20 = .ok (.getfield 36, 3) := by decide +kernel
theorem d_Ws_whole_23 : decode b_Ws_whole 23 = .ok (.getfield 52, 3) := by decide +kernel
theorem d_Ws_whole_26 : decode b_Ws_whole 26 = .ok (.if_icmp .ge 29, 3) := by decide +kernel
theorem d_Ws_whole_29 : decode b_Ws_whole 29 = .ok (.lload_n 1, 1) := by decide +kernel
theorem d_Ws_whole_30 : decode b_Ws_whole 30 = .ok (.aload_n 0, 1) := by decide +kernel
theorem d_Ws_whole_31 : decode b_Ws_whole 31 = .ok (.getfield 25, 3) := by decide +kernel
theorem d_Ws_whole_34 : decode b_Ws_whole 34 = .ok (.iconst 0, 1) := by decide +kernel
theorem d_Ws_whole_35 : decode b_Ws_whole 35 = .ok (.aaload, 1) := by decide +kernel
theorem d_Ws_whole_36 : decode b_Ws_whole 36 = .ok (.iload_n 3, 1) := by decide +kernel
theorem d_Ws_whole_37 : decode b_Ws_whole 37 = .ok (.laload, 1) := by decide +kernel
theorem d_Ws_whole_38 : decode b_Ws_whole 38 = .ok (.aload_n 0, 1) := by decide +kernel
theorem d_Ws_whole_39 : decode b_Ws_whole 39 = .ok (.getfield 16, 3) := by decide +kernel
theorem d_Ws_whole_42 : decode b_Ws_whole 42 = .ok (.iconst 0, 1) := by decide +kernel
theorem d_Ws_whole_43 : decode b_Ws_whole 43 = .ok (.aaload, 1) := by decide +kernel
theorem d_Ws_whole_44 : decode b_Ws_whole 44 = .ok (.iload_n 3, 1) := by decide +kernel
theorem d_Ws_whole_45 : decode b_Ws_whole 45 = .ok (.laload, 1) := by decide +kernel
theorem d_Ws_whole_46 : decode b_Ws_whole 46 = .ok (.lmul, 1) := by decide +kernel
theorem d_Ws_whole_47 : decode b_Ws_whole 47 = .ok (.ladd, 1) := by decide +kernel
theorem d_Ws_whole_48 : decode b_Ws_whole 48 = .ok (.lstore_n 1, 1) := by decide +kernel
theorem d_Ws_whole_49 : decode b_Ws_whole 49 = .ok (.iinc 3 1, 3) := by decide +kernel
theorem d_Ws_whole_52 : decode b_Ws_whole 52 = .ok (.goto (-34), 3) := by decide +kernel
theorem d_Ws_whole_55 : decode b_Ws_whole 55 = .ok (.lload_n 1, 1) := by decide +kernel
theorem d_Ws_whole_56 : decode b_Ws_whole 56 = .ok (.lreturn, 1) := by decide +kernel
theorem d_Ws_refresh_0 : decode b_Ws_refresh 0 = .ok (.aload_n 0, 1) := by decide +kernel
theorem d_Ws_refresh_1 : decode b_Ws_refresh 1 = .ok (.getfield 28, 3) := by decide +kernel
theorem d_Ws_refresh_4 : decode b_Ws_refresh 4 = .ok (.ifCond .eq 4, 3) := by decide +kernel
theorem d_Ws_refresh_7 : decode b_Ws_refresh 7 = .ok (.return_, 1) := by decide +kernel
theorem d_Ws_refresh_8 : decode b_Ws_refresh 8 = .ok (.aload_n 0, 1) := by decide +kernel
theorem d_Ws_refresh_9 : decode b_Ws_refresh 9 = .ok (.iconst 1, 1) := by decide +kernel
theorem d_Ws_refresh_10 : decode b_Ws_refresh 10 = .ok (.putfield 28, 3) := by decide +kernel
theorem d_Ws_refresh_13 : decode b_Ws_refresh 13 = .ok (.aload_n 0, 1) := by decide +kernel
theorem d_Ws_refresh_14 : decode b_Ws_refresh 14 = .ok (.invokevirtual 81, 3) := by decide +kernel
theorem d_Ws_refresh_17 : decode b_Ws_refresh 17 = .ok (.aload_n 0, 1) := by decide +kernel
theorem d_Ws_refresh_18 : decode b_Ws_refresh 18 = .ok (.invokevirtual 84, 3) := by decide +kernel
theorem d_Ws_refresh_21 : decode b_Ws_refresh 21 = .ok (.aload_n 0, 1) := by decide +kernel
theorem d_Ws_refresh_22 : decode b_Ws_refresh 22 = .ok (.invokevirtual 87, 3) := by decide +kernel
theorem d_Ws_refresh_25 : decode b_Ws_refresh 25 = .ok (.return_, 1) := by decide +kernel
theorem d_Ws_showPlaces_0 : decode b_Ws_showPlaces 0 = .ok (.iconst 0, 1) := by decide +kernel
theorem d_Ws_showPlaces_1 : decode b_Ws_showPlaces 1 = .ok (.istore_n 1, 1) := by decide +kernel
theorem d_Ws_showPlaces_2 : decode b_Ws_showPlaces 2 = .ok (.iload_n 1, 1) := by decide +kernel
theorem d_Ws_showPlaces_3 : decode b_Ws_showPlaces 3 = .ok (.aload_n 0, 1) := by decide +kernel
theorem d_Ws_showPlaces_4 : decode b_Ws_showPlaces 4 = .ok (.getfield 32, 3) := by decide +kernel
theorem d_Ws_showPlaces_7 : decode b_Ws_showPlaces 7 = .ok (.getfield 47, 3) := by decide +kernel
theorem d_Ws_showPlaces_10 : decode b_Ws_showPlaces 10 = .ok (.if_icmp .ge 42, 3) := by decide +kernel
theorem d_Ws_showPlaces_13 : decode b_Ws_showPlaces 13 = .ok (.iconst 0, 1) := by decide +kernel
theorem d_Ws_showPlaces_14 : decode b_Ws_showPlaces 14 = .ok (.istore_n 2, 1) := by decide +kernel
theorem d_Ws_showPlaces_15 : decode b_Ws_showPlaces 15 = .ok (.iload_n 2, 1) := by decide +kernel
theorem d_Ws_showPlaces_16 : decode b_Ws_showPlaces 16 = .ok (.aload_n 0, 1) := by decide +kernel
theorem d_Ws_showPlaces_17 : decode b_Ws_showPlaces 17 = .ok (.getfield 36, 3) := by decide +kernel
theorem d_Ws_showPlaces_20 : decode b_Ws_showPlaces 20 = .ok (.getfield 52, 3) := by decide +kernel
theorem d_Ws_showPlaces_23 : decode b_Ws_showPlaces 23 = .ok (.if_icmp .ge 23, 3) := by decide +kernel
theorem d_Ws_showPlaces_26 : decode b_Ws_showPlaces 26 = .ok (.aload_n 0, 1) := by decide +kernel
theorem d_Ws_showPlaces_27 : decode b_Ws_showPlaces 27 = .ok (.getfield 11, 3) := by decide +kernel
theorem d_Ws_showPlaces_30 : decode b_Ws_showPlaces 30 = .ok (.iload_n 1, 1) := by decide +kernel
theorem d_Ws_showPlaces_31 : decode b_Ws_showPlaces 31 = .ok (.aaload, 1) := by decide +kernel
theorem d_Ws_showPlaces_32 : decode b_Ws_showPlaces 32 = .ok (.iload_n 2, 1) := by decide +kernel
theorem d_Ws_showPlaces_33 : decode b_Ws_showPlaces 33 = .ok (.aload_n 0, 1) := by decide +kernel
theorem d_Ws_showPlaces_34 : decode b_Ws_showPlaces 34 = .ok (.iload_n 1, 1) := by decide +kernel
theorem d_Ws_showPlaces_35 : decode b_Ws_showPlaces 35 = .ok (.iload_n 2, 1) := by decide +kernel
theorem d_Ws_showPlaces_36 : decode b_Ws_showPlaces 36 = .ok (.invokevirtual 90, 3) := by decide +kernel
theorem d_Ws_showPlaces_39 : decode b_Ws_showPlaces 39 = .ok (.lastore, 1) := by decide +kernel
theorem d_Ws_showPlaces_40 : decode b_Ws_showPlaces 40 = .ok (.iinc 2 1, 3) := by decide +kernel
theorem d_Ws_showPlaces_43 : decode b_Ws_showPlaces 43 = .ok (.goto (-28), 3) := by decide +kernel
theorem d_Ws_showPlaces_46 : decode b_Ws_showPlaces 46 = .ok (.iinc 1 1, 3) := by decide +kernel
theorem d_Ws_showPlaces_49 : decode b_Ws_showPlaces 49 = .ok (.goto (-47), 3) := by decide +kernel
theorem d_Ws_showPlaces_52 : decode b_Ws_showPlaces 52 = .ok (.return_, 1) := by decide +kernel
theorem d_Ws_showOf_0 : decode b_Ws_showOf 0 = .ok (.aload_n 0, 1) := by decide +kernel
theorem d_Ws_showOf_1 : decode b_Ws_showOf 1 = .ok (.getfield 32, 3) := by decide +kernel
theorem d_Ws_showOf_4 : decode b_Ws_showOf 4 = .ok (.getfield 94, 3) := by decide +kernel
theorem d_Ws_showOf_7 : decode b_Ws_showOf 7 = .ok (.iload_n 1, 1) := by decide +kernel
theorem d_Ws_showOf_8 : decode b_Ws_showOf 8 = .ok (.iaload, 1) := by decide +kernel
theorem d_Ws_showOf_9 : decode b_Ws_showOf 9 = .ok (.istore_n 3, 1) := by decide +kernel
theorem d_Ws_showOf_10 : decode b_Ws_showOf 10 = .ok (.iload_n 3, 1) := by decide +kernel
theorem d_Ws_showOf_11 : decode b_Ws_showOf 11 = .ok (.iconst (-1), 1) := by decide +kernel
theorem d_Ws_showOf_12 : decode b_Ws_showOf 12 = .ok (.if_icmp .eq 10, 3) := by decide +kernel
theorem d_Ws_showOf_15 : decode b_Ws_showOf 15 = .ok (.iload_n 3, 1) := by decide +kernel
theorem d_Ws_showOf_16 : decode b_Ws_showOf 16 = .ok (.iload_n 2, 1) := by decide +kernel
theorem d_Ws_showOf_17 : decode b_Ws_showOf 17 = .ok (.if_icmp .eq 5, 3) := by decide +kernel
theorem d_Ws_showOf_20 : decode b_Ws_showOf 20 = .ok (.lconst 0, 1) := by decide +kernel
theorem d_Ws_showOf_21 : decode b_Ws_showOf 21 = .ok (.lreturn, 1) := by decide +kernel
theorem d_Ws_showOf_22 : decode b_Ws_showOf 22 = .ok (.aload_n 0, 1) := by decide +kernel
theorem d_Ws_showOf_23 : decode b_Ws_showOf 23 = .ok (.getfield 32, 3) := by decide +kernel
theorem d_Ws_showOf_26 : decode b_Ws_showOf 26 = .ok (.getfield 98, 3) := by decide +kernel
theorem d_Ws_showOf_29 : decode b_Ws_showOf 29 = .ok (.iload_n 1, 1) := by decide +kernel
theorem d_Ws_showOf_30 : decode b_Ws_showOf 30 = .ok (.iaload, 1) := by decide +kernel
theorem d_Ws_showOf_31 : decode b_Ws_showOf 31 = .ok (.istore 4, 2) := by decide +kernel
theorem d_Ws_showOf_33 : decode b_Ws_showOf 33 = .ok (.iload 4, 2) := by decide +kernel
theorem d_Ws_showOf_35 : decode b_Ws_showOf 35 = .ok (.iconst (-1), 1) := by decide +kernel
theorem d_Ws_showOf_36 : decode b_Ws_showOf 36 = .ok (.if_icmp .eq 22, 3) := by decide +kernel
theorem d_Ws_showOf_39 : decode b_Ws_showOf 39 = .ok (.aload_n 0, 1) := by decide +kernel
theorem d_Ws_showOf_40 : decode b_Ws_showOf 40 = .ok (.aload_n 0, 1) := by decide +kernel
theorem d_Ws_showOf_41 : decode b_Ws_showOf 41 = .ok (.getfield 36, 3) := by decide +kernel
theorem d_Ws_showOf_44 : decode b_Ws_showOf 44 = .ok (.getfield 78, 3) := by decide +kernel
theorem d_Ws_showOf_47 : decode b_Ws_showOf 47 = .ok (.iload_n 2, 1) := by decide +kernel
theorem d_Ws_showOf_48 : decode b_Ws_showOf 48 = .ok (.aaload, 1) := by decide +kernel
theorem d_Ws_showOf_49 : decode b_Ws_showOf 49 = .ok (.iconst 5, 1) := by decide +kernel
theorem d_Ws_showOf_50 : decode b_Ws_showOf 50 = .ok (.iload 4, 2) := by decide +kernel
theorem d_Ws_showOf_52 : decode b_Ws_showOf 52 = .ok (.iadd, 1) := by decide +kernel
theorem d_Ws_showOf_53 : decode b_Ws_showOf 53 = .ok (.iaload, 1) := by decide +kernel
theorem d_Ws_showOf_54 : decode b_Ws_showOf 54 = .ok (.invokevirtual 71, 3) := by decide +kernel
theorem d_Ws_showOf_57 : decode b_Ws_showOf 57 = .ok (.lreturn, 1) := by decide +kernel
theorem d_Ws_showOf_58 : decode b_Ws_showOf 58 = .ok (.iconst 0, 1) := by decide +kernel
theorem d_Ws_showOf_59 : decode b_Ws_showOf 59 = .ok (.istore 5, 2) := by decide +kernel
theorem d_Ws_showOf_61 : decode b_Ws_showOf 61 = .ok (.iconst 0, 1) := by decide +kernel
theorem d_Ws_showOf_62 : decode b_Ws_showOf 62 = .ok (.istore 6, 2) := by decide +kernel
theorem d_Ws_showOf_64 : decode b_Ws_showOf 64 = .ok (.iload 6, 2) := by decide +kernel
theorem d_Ws_showOf_66 : decode b_Ws_showOf 66 = .ok (.iconst 4, 1) := by decide +kernel
theorem d_Ws_showOf_67 : decode b_Ws_showOf 67 = .ok (.if_icmp .ge 28, 3) := by decide +kernel
theorem d_Ws_showOf_70 : decode b_Ws_showOf 70 = .ok (.iload 5, 2) := by decide +kernel
theorem d_Ws_showOf_72 : decode b_Ws_showOf 72 = .ok (.aload_n 0, 1) := by decide +kernel
theorem d_Ws_showOf_73 : decode b_Ws_showOf 73 = .ok (.getfield 36, 3) := by decide +kernel
theorem d_Ws_showOf_76 : decode b_Ws_showOf 76 = .ok (.getfield 78, 3) := by decide +kernel
theorem d_Ws_showOf_79 : decode b_Ws_showOf 79 = .ok (.iload_n 2, 1) := by decide +kernel
theorem d_Ws_showOf_80 : decode b_Ws_showOf 80 = .ok (.aaload, 1) := by decide +kernel
theorem d_Ws_showOf_81 : decode b_Ws_showOf 81 = .ok (.iconst 5, 1) := by decide +kernel
theorem d_Ws_showOf_82 : decode b_Ws_showOf 82 = .ok (.iload 6, 2) := by decide +kernel
theorem d_Ws_showOf_84 : decode b_Ws_showOf 84 = .ok (.iadd, 1) := by decide +kernel
theorem d_Ws_showOf_85 : decode b_Ws_showOf 85 = .ok (.iaload, 1) := by decide +kernel
theorem d_Ws_showOf_86 : decode b_Ws_showOf 86 = .ok (.iadd, 1) := by decide +kernel
theorem d_Ws_showOf_87 : decode b_Ws_showOf 87 = .ok (.istore 5, 2) := by decide +kernel
theorem d_Ws_showOf_89 : decode b_Ws_showOf 89 = .ok (.iinc 6 1, 3) := by decide +kernel
theorem d_Ws_showOf_92 : decode b_Ws_showOf 92 = .ok (.goto (-28), 3) := by decide +kernel
theorem d_Ws_showOf_95 : decode b_Ws_showOf 95 = .ok (.aload_n 0, 1) := by decide +kernel
theorem d_Ws_showOf_96 : decode b_Ws_showOf 96 = .ok (.iload 5, 2) := by decide +kernel
theorem d_Ws_showOf_98 : decode b_Ws_showOf 98 = .ok (.invokevirtual 71, 3) := by decide +kernel
theorem d_Ws_showOf_101 : decode b_Ws_showOf 101 = .ok (.lreturn, 1) := by decide +kernel
theorem d_Ws_cut_0 : decode b_Ws_cut 0 = .ok (.iload_n 1, 1) := by decide +kernel
theorem d_Ws_cut_1 : decode b_Ws_cut 1 = .ok (.aload_n 0, 1) := by decide +kernel
theorem d_Ws_cut_2 : decode b_Ws_cut 2 = .ok (.getfield 40, 3) := by decide +kernel
theorem d_Ws_cut_5 : decode b_Ws_cut 5 = .ok (.if_icmp .ge 8, 3) := by decide +kernel
theorem d_Ws_cut_8 : decode b_Ws_cut 8 = .ok (.iload_n 1, 1) := by decide +kernel
theorem d_Ws_cut_9 : decode b_Ws_cut 9 = .ok (.i2l, 1) := by decide +kernel
theorem d_Ws_cut_10 : decode b_Ws_cut 10 = .ok (.goto 8, 3) := by decide +kernel
theorem d_Ws_cut_13 : decode b_Ws_cut 13 = .ok (.aload_n 0, 1) := by decide +kernel
theorem d_Ws_cut_14 : decode b_Ws_cut 14 = .ok (.getfield 40, 3) := by decide +kernel
theorem d_Ws_cut_17 : decode b_Ws_cut 17 = .ok (.i2l, 1) := by decide +kernel
theorem d_Ws_cut_18 : decode b_Ws_cut 18 = .ok (.lreturn, 1) := by decide +kernel
theorem d_Ws_sumFromBehind_0 : decode b_Ws_sumFromBehind 0 = .ok (.iconst 0, 1) := by decide +kernel
theorem d_Ws_sumFromBehind_1 : decode b_Ws_sumFromBehind 1 = .ok (.istore_n 1, 1) := by decide +kernel
theorem d_Ws_sumFromBehind_2 : decode b_Ws_sumFromBehind 2 = .ok (.iload_n 1, 1) := by decide +kernel
theorem d_Ws_sumFromBehind_3 : decode b_Ws_sumFromBehind 3 = .ok (.aload_n 0, 1) := by decide +kernel
theorem d_Ws_sumFromBehind_4 : decode b_Ws_sumFromBehind 4 = .ok (.getfield 36, 3) := by decide +kernel
theorem d_Ws_sumFromBehind_7 : decode b_Ws_sumFromBehind 7 = .ok (.getfield 52, 3) := by decide +kernel
theorem d_Ws_sumFromBehind_10 : decode b_Ws_sumFromBehind 10 = .ok (.if_icmp .ge 38, 3) := by decide +kernel
theorem d_Ws_sumFromBehind_13 : decode b_Ws_sumFromBehind 13 = .ok (.aload_n 0, 1) := by decide +kernel
theorem d_Ws_sumFromBehind_14 : decode b_Ws_sumFromBehind 14 = .ok (.getfield 19, 3) := by decide +kernel
theorem d_Ws_sumFromBehind_17 : decode b_Ws_sumFromBehind 17 = .ok (.aload_n 0, 1) := by decide +kernel
theorem d_Ws_sumFromBehind_18 : decode b_Ws_sumFromBehind 18 = .ok (.getfield 32, 3) := by decide +kernel
theorem d_Ws_sumFromBehind_21 : decode b_Ws_sumFromBehind 21 = .ok (.getfield 47, 3) := by decide +kernel
theorem d_Ws_sumFromBehind_24 : decode b_Ws_sumFromBehind 24 = .ok (.aaload, 1) := by decide +kernel
theorem d_Ws_sumFromBehind_25 : decode b_Ws_sumFromBehind 25 = .ok (.iload_n 1, 1) := by decide +kernel
theorem d_Ws_sumFromBehind_26 : decode b_Ws_sumFromBehind 26 = .ok (.aload_n 0, 1) := by decide +kernel
theorem d_Ws_sumFromBehind_27 : decode b_Ws_sumFromBehind 27 = .ok (.aload_n 0, 1) := by decide +kernel
theorem d_Ws_sumFromBehind_28 : decode b_Ws_sumFromBehind 28 = .ok (.getfield 36, 3) := by decide +kernel
theorem d_Ws_sumFromBehind_31 : decode b_Ws_sumFromBehind 31 = .ok (.getfield 78, 3) := by decide +kernel
theorem d_Ws_sumFromBehind_34 : decode b_Ws_sumFromBehind 34 = .ok (.iload_n 1, 1) := by decide +kernel
theorem d_Ws_sumFromBehind_35 : decode b_Ws_sumFromBehind 35 = .ok (.aaload, 1) := by decide +kernel
theorem d_Ws_sumFromBehind_36 : decode b_Ws_sumFromBehind 36 = .ok (.iconst 1, 1) := by decide +kernel
theorem d_Ws_sumFromBehind_37 : decode b_Ws_sumFromBehind 37 = .ok (.iaload, 1) := by decide +kernel
theorem d_Ws_sumFromBehind_38 : decode b_Ws_sumFromBehind 38 = .ok (.invokevirtual 71, 3) := by decide +kernel
theorem d_Ws_sumFromBehind_41 : decode b_Ws_sumFromBehind 41 = .ok (.lastore, 1) := by decide +kernel
theorem d_Ws_sumFromBehind_42 : decode b_Ws_sumFromBehind 42 = .ok (.iinc 1 1, 3) := by decide +kernel
theorem d_Ws_sumFromBehind_45 : decode b_Ws_sumFromBehind 45 = .ok (.goto (-43), 3) := by decide +kernel
theorem d_Ws_sumFromBehind_48 : decode b_Ws_sumFromBehind 48 = .ok (.aload_n 0, 1) := by decide +kernel
theorem d_Ws_sumFromBehind_49 : decode b_Ws_sumFromBehind 49 = .ok (.getfield 32, 3) := by decide +kernel
theorem d_Ws_sumFromBehind_52 : decode b_Ws_sumFromBehind 52 = .ok (.getfield 47, 3) := by decide +kernel
theorem d_Ws_sumFromBehind_55 : decode b_Ws_sumFromBehind 55 = .ok (.iconst 1, 1) := by decide +kernel
theorem d_Ws_sumFromBehind_56 : decode b_Ws_sumFromBehind 56 = .ok (.isub, 1) := by decide +kernel
theorem d_Ws_sumFromBehind_57 : decode b_Ws_sumFromBehind 57 = .ok (.istore_n 1, 1) := by decide +kernel
theorem d_Ws_sumFromBehind_58 : decode b_Ws_sumFromBehind 58 = .ok (.iload_n 1, 1) := by decide +kernel
theorem d_Ws_sumFromBehind_59 : decode b_Ws_sumFromBehind 59 = .ok (.ifCond .lt 76, 3) := by decide +kernel
theorem d_Ws_sumFromBehind_62 : decode b_Ws_sumFromBehind 62 = .ok (.iconst 0, 1) := by decide +kernel
theorem d_Ws_sumFromBehind_63 : decode b_Ws_sumFromBehind 63 = .ok (.istore_n 2, 1) := by decide +kernel
theorem d_Ws_sumFromBehind_64 : decode b_Ws_sumFromBehind 64 = .ok (.iload_n 2, 1) := by decide +kernel
theorem d_Ws_sumFromBehind_65 : decode b_Ws_sumFromBehind 65 = .ok (.aload_n 0, 1) := by decide +kernel
theorem d_Ws_sumFromBehind_66 : decode b_Ws_sumFromBehind 66 = .ok (.getfield 36, 3) := by decide +kernel
theorem d_Ws_sumFromBehind_69 : decode b_Ws_sumFromBehind 69 = .ok (.getfield 52, 3) := by decide +kernel
theorem d_Ws_sumFromBehind_72 : decode b_Ws_sumFromBehind 72 = .ok (.if_icmp .ge 24, 3) := by decide +kernel
theorem d_Ws_sumFromBehind_75 : decode b_Ws_sumFromBehind 75 = .ok (.aload_n 0, 1) := by decide +kernel
theorem d_Ws_sumFromBehind_76 : decode b_Ws_sumFromBehind 76 = .ok (.getfield 16, 3) := by decide +kernel
theorem d_Ws_sumFromBehind_79 : decode b_Ws_sumFromBehind 79 = .ok (.iload_n 1, 1) := by decide +kernel
theorem d_Ws_sumFromBehind_80 : decode b_Ws_sumFromBehind 80 = .ok (.aaload, 1) := by decide +kernel
theorem d_Ws_sumFromBehind_81 : decode b_Ws_sumFromBehind 81 = .ok (.iload_n 2, 1) := by decide +kernel
theorem d_Ws_sumFromBehind_82 : decode b_Ws_sumFromBehind 82 = .ok (.aload_n 0, 1) := by decide +kernel
theorem d_Ws_sumFromBehind_83 : decode b_Ws_sumFromBehind 83 = .ok (.iconst 0, 1) := by decide +kernel
theorem d_Ws_sumFromBehind_84 : decode b_Ws_sumFromBehind 84 = .ok (.iload_n 1, 1) := by decide +kernel
theorem d_Ws_sumFromBehind_85 : decode b_Ws_sumFromBehind 85 = .ok (.iload_n 2, 1) := by decide +kernel
theorem d_Ws_sumFromBehind_86 : decode b_Ws_sumFromBehind 86 = .ok (.invokevirtual 63, 3) := by decide +kernel
theorem d_Ws_sumFromBehind_89 : decode b_Ws_sumFromBehind 89 = .ok (.lastore, 1) := by decide +kernel
theorem d_Ws_sumFromBehind_90 : decode b_Ws_sumFromBehind 90 = .ok (.iinc 2 1, 3) := by decide +kernel
theorem d_Ws_sumFromBehind_93 : decode b_Ws_sumFromBehind 93 = .ok (.goto (-29), 3) := by decide +kernel
theorem d_Ws_sumFromBehind_96 : decode b_Ws_sumFromBehind 96 = .ok (.iconst 0, 1) := by decide +kernel
theorem d_Ws_sumFromBehind_97 : decode b_Ws_sumFromBehind 97 = .ok (.istore_n 2, 1) := by decide +kernel
theorem d_Ws_sumFromBehind_98 : decode b_Ws_sumFromBehind 98 = .ok (.iload_n 2, 1) := by decide +kernel
theorem d_Ws_sumFromBehind_99 : decode b_Ws_sumFromBehind 99 = .ok (.aload_n 0, 1) := by decide +kernel
theorem d_Ws_sumFromBehind_100 : decode b_Ws_sumFromBehind 100 = .ok (.getfield 36, 3) := by decide +kernel
theorem d_Ws_sumFromBehind_103 : decode b_Ws_sumFromBehind 103 = .ok (.getfield 52, 3) := by decide +kernel
theorem d_Ws_sumFromBehind_106 : decode b_Ws_sumFromBehind 106 = .ok (.if_icmp .ge 23, 3) := by decide +kernel
theorem d_Ws_sumFromBehind_109 : decode b_Ws_sumFromBehind 109 = .ok (.aload_n 0, 1) := by decide +kernel
theorem d_Ws_sumFromBehind_110 : decode b_Ws_sumFromBehind 110 = .ok (.getfield 19, 3) := by decide +kernel
theorem d_Ws_sumFromBehind_113 : decode b_Ws_sumFromBehind 113 = .ok (.iload_n 1, 1) := by decide +kernel
theorem d_Ws_sumFromBehind_114 : decode b_Ws_sumFromBehind 114 = .ok (.aaload, 1) := by decide +kernel
theorem d_Ws_sumFromBehind_115 : decode b_Ws_sumFromBehind 115 = .ok (.iload_n 2, 1) := by decide +kernel
theorem d_Ws_sumFromBehind_116 : decode b_Ws_sumFromBehind 116 = .ok (.aload_n 0, 1) := by decide +kernel
theorem d_Ws_sumFromBehind_117 : decode b_Ws_sumFromBehind 117 = .ok (.iload_n 1, 1) := by decide +kernel
theorem d_Ws_sumFromBehind_118 : decode b_Ws_sumFromBehind 118 = .ok (.iload_n 2, 1) := by decide +kernel
theorem d_Ws_sumFromBehind_119 : decode b_Ws_sumFromBehind 119 = .ok (.invokevirtual 101, 3) := by decide +kernel
theorem d_Ws_sumFromBehind_122 : decode b_Ws_sumFromBehind 122 = .ok (.lastore, 1) := by decide +kernel
theorem d_Ws_sumFromBehind_123 : decode b_Ws_sumFromBehind 123 = .ok (.iinc 2 1, 3) := by decide +kernel
theorem d_Ws_sumFromBehind_126 : decode b_Ws_sumFromBehind 126 = .ok (.goto (-28), 3) := by decide +kernel
theorem d_Ws_sumFromBehind_129 : decode b_Ws_sumFromBehind 129 = .ok (.iinc 1 (-1), 3) := by decide +kernel
theorem d_Ws_sumFromBehind_132 : decode b_Ws_sumFromBehind 132 = .ok (.goto (-74), 3) := by decide +kernel
theorem d_Ws_sumFromBehind_135 : decode b_Ws_sumFromBehind 135 = .ok (.return_, 1) := by decide +kernel
theorem d_Ws_longerThan_0 : decode b_Ws_longerThan 0 = .ok (.lconst 0, 1) := by decide +kernel
theorem d_Ws_longerThan_1 : decode b_Ws_longerThan 1 = .ok (.lstore 4, 2) := by decide +kernel
theorem d_Ws_longerThan_3 : decode b_Ws_longerThan 3 = .ok (.iload_n 1, 1) := by decide +kernel
theorem d_Ws_longerThan_4 : decode b_Ws_longerThan 4 = .ok (.iconst 1, 1) := by decide +kernel
theorem d_Ws_longerThan_5 : decode b_Ws_longerThan 5 = .ok (.iadd, 1) := by decide +kernel
theorem d_Ws_longerThan_6 : decode b_Ws_longerThan 6 = .ok (.istore 6, 2) := by decide +kernel
theorem d_Ws_longerThan_8 : decode b_Ws_longerThan 8 = .ok (.iload 6, 2) := by decide +kernel
theorem d_Ws_longerThan_10 : decode b_Ws_longerThan 10 = .ok (.iconst 3, 1) := by decide +kernel
theorem d_Ws_longerThan_11 : decode b_Ws_longerThan 11 = .ok (.if_icmp .gt 48, 3) := by decide +kernel
theorem d_Ws_longerThan_14 : decode b_Ws_longerThan 14 = .ok (.iload_n 2, 1) := by decide +kernel
theorem d_Ws_longerThan_15 : decode b_Ws_longerThan 15 = .ok (.iload 6, 2) := by decide +kernel
theorem d_Ws_longerThan_17 : decode b_Ws_longerThan 17 = .ok (.iadd, 1) := by decide +kernel
theorem d_Ws_longerThan_18 : decode b_Ws_longerThan 18 = .ok (.aload_n 0, 1) := by decide +kernel
theorem d_Ws_longerThan_19 : decode b_Ws_longerThan 19 = .ok (.getfield 32, 3) := by decide +kernel
theorem d_Ws_longerThan_22 : decode b_Ws_longerThan 22 = .ok (.getfield 47, 3) := by decide +kernel
theorem d_Ws_longerThan_25 : decode b_Ws_longerThan 25 = .ok (.if_icmp .gt 34, 3) := by decide +kernel
theorem d_Ws_longerThan_28 : decode b_Ws_longerThan 28 = .ok (.lload 4, 2) := by decide +kernel
theorem d_Ws_longerThan_30 : decode b_Ws_longerThan 30 = .ok (.aload_n 0, 1) := by decide +kernel
theorem d_Ws_longerThan_31 : decode b_Ws_longerThan 31 = .ok (.iload_n 2, 1) := by decide +kernel
theorem d_Ws_longerThan_32 : decode b_Ws_longerThan 32 = .ok (.iload 6, 2) := by decide +kernel
theorem d_Ws_longerThan_34 : decode b_Ws_longerThan 34 = .ok (.iload_n 3, 1) := by decide +kernel
theorem d_Ws_longerThan_35 : decode b_Ws_longerThan 35 = .ok (.invokevirtual 75, 3) := by decide +kernel
theorem d_Ws_longerThan_38 : decode b_Ws_longerThan 38 = .ok (.aload_n 0, 1) := by decide +kernel
theorem d_Ws_longerThan_39 : decode b_Ws_longerThan 39 = .ok (.getfield 19, 3) := by decide +kernel
theorem d_Ws_longerThan_42 : decode b_Ws_longerThan 42 = .ok (.iload_n 2, 1) := by decide +kernel
theorem d_Ws_longerThan_43 : decode b_Ws_longerThan 43 = .ok (.iload 6, 2) := by decide +kernel
theorem d_Ws_longerThan_45 : decode b_Ws_longerThan 45 = .ok (.iadd, 1) := by decide +kernel
theorem d_Ws_longerThan_46 : decode b_Ws_longerThan 46 = .ok (.aaload, 1) := by decide +kernel
theorem d_Ws_longerThan_47 : decode b_Ws_longerThan 47 = .ok (.iload_n 3, 1) := by decide +kernel
theorem d_Ws_longerThan_48 : decode b_Ws_longerThan 48 = .ok (.laload, 1) := by decide +kernel
theorem d_Ws_longerThan_49 : decode b_Ws_longerThan 49 = .ok (.lmul, 1) := by decide +kernel
theorem d_Ws_longerThan_50 : decode b_Ws_longerThan 50 = .ok (.ladd, 1) := by decide +kernel
theorem d_Ws_longerThan_51 : decode b_Ws_longerThan 51 = .ok (.lstore 4, 2) := by decide +kernel
theorem d_Ws_longerThan_53 : decode b_Ws_longerThan 53 = .ok (.iinc 6 1, 3) := by decide +kernel
theorem d_Ws_longerThan_56 : decode b_Ws_longerThan 56 = .ok (.goto (-48), 3) := by decide +kernel
theorem d_Ws_longerThan_59 : decode b_Ws_longerThan 59 = .ok (.lload 4, 2) := by decide +kernel
theorem d_Ws_longerThan_61 : decode b_Ws_longerThan 61 = .ok (.lreturn, 1) := by decide +kernel
theorem d_Ws_segment_0 : decode b_Ws_segment 0 = .ok (.aload_n 0, 1) := by decide +kernel
theorem d_Ws_segment_1 : decode b_Ws_segment 1 = .ok (.aload_n 0, 1) := by decide +kernel
theorem d_Ws_segment_2 : decode b_Ws_segment 2 = .ok (.getfield 36, 3) := by decide +kernel
theorem d_Ws_segment_5 : decode b_Ws_segment 5 = .ok (.getfield 78, 3) := by decide +kernel
theorem d_Ws_segment_8 : decode b_Ws_segment 8 = .ok (.iload_n 3, 1) := by decide +kernel
theorem d_Ws_segment_9 : decode b_Ws_segment 9 = .ok (.aaload, 1) := by decide +kernel
theorem d_Ws_segment_10 : decode b_Ws_segment 10 = .ok (.iconst 2, 1) := by decide +kernel
theorem d_Ws_segment_11 : decode b_Ws_segment 11 = .ok (.iload_n 2, 1) := by decide +kernel
theorem d_Ws_segment_12 : decode b_Ws_segment 12 = .ok (.iadd, 1) := by decide +kernel
theorem d_Ws_segment_13 : decode b_Ws_segment 13 = .ok (.iconst 1, 1) := by decide +kernel
theorem d_Ws_segment_14 : decode b_Ws_segment 14 = .ok (.isub, 1) := by decide +kernel
theorem d_Ws_segment_15 : decode b_Ws_segment 15 = .ok (.iaload, 1) := by decide +kernel
theorem d_Ws_segment_16 : decode b_Ws_segment 16 = .ok (.invokevirtual 71, 3) := by decide +kernel
theorem d_Ws_segment_19 : decode b_Ws_segment 19 = .ok (.lstore 4, 2) := by decide +kernel
theorem d_Ws_segment_21 : decode b_Ws_segment 21 = .ok (.iload_n 1, 1) := by decide +kernel
theorem d_Ws_segment_22 : decode b_Ws_segment 22 = .ok (.istore 6, 2) := by decide +kernel
theorem d_Ws_segment_24 : decode b_Ws_segment 24 = .ok (.iload 6, 2) := by decide +kernel
theorem d_Ws_segment_26 : decode b_Ws_segment 26 = .ok (.iload_n 1, 1) := by decide +kernel
theorem d_Ws_segment_27 : decode b_Ws_segment 27 = .ok (.iload_n 2, 1) := by decide +kernel
theorem d_Ws_segment_28 : decode b_Ws_segment 28 = .ok (.iadd, 1) := by decide +kernel
theorem d_Ws_segment_29 : decode b_Ws_segment 29 = .ok (.if_icmp .ge 23, 3) := by decide +kernel
theorem d_Ws_segment_32 : decode b_Ws_segment 32 = .ok (.lload 4, 2) := by decide +kernel
theorem d_Ws_segment_34 : decode b_Ws_segment 34 = .ok (.aload_n 0, 1) := by decide +kernel
theorem d_Ws_segment_35 : decode b_Ws_segment 35 = .ok (.getfield 11, 3) := by decide +kernel
theorem d_Ws_segment_38 : decode b_Ws_segment 38 = .ok (.iload 6, 2) := by decide +kernel
theorem d_Ws_segment_40 : decode b_Ws_segment 40 = .ok (.aaload, 1) := by decide +kernel
theorem d_Ws_segment_41 : decode b_Ws_segment 41 = .ok (.iload_n 3, 1) := by decide +kernel
theorem d_Ws_segment_42 : decode b_Ws_segment 42 = .ok (.laload, 1) := by decide +kernel
theorem d_Ws_segment_43 : decode b_Ws_segment 43 = .ok (.lmul, 1) := by decide +kernel
theorem d_Ws_segment_44 : decode b_Ws_segment 44 = .ok (.lstore 4, 2) := by decide +kernel
theorem d_Ws_segment_46 : decode b_Ws_segment 46 = .ok (.iinc 6 1, 3) := by decide +kernel
theorem d_Ws_segment_49 : decode b_Ws_segment 49 = .ok (.goto (-25), 3) := by decide +kernel
theorem d_Ws_segment_52 : decode b_Ws_segment 52 = .ok (.lload 4, 2) := by decide +kernel
theorem d_Ws_segment_54 : decode b_Ws_segment 54 = .ok (.lreturn, 1) := by decide +kernel
theorem d_Ws_movedOutOf_0 : decode b_Ws_movedOutOf 0 = .ok (.lconst 0, 1) := by decide +kernel
theorem d_Ws_movedOutOf_1 : decode b_Ws_movedOutOf 1 = .ok (.lstore_n 3, 1) := by decide +kernel
theorem d_Ws_movedOutOf_2 : decode b_Ws_movedOutOf 2 = .ok (.iconst 0, 1) := by decide +kernel
theorem d_Ws_movedOutOf_3 : decode b_Ws_movedOutOf 3 = .ok (.istore 5, 2) := by decide +kernel
theorem d_Ws_movedOutOf_5 : decode b_Ws_movedOutOf 5 = .ok (.iload 5, 2) := by decide +kernel
theorem d_Ws_movedOutOf_7 : decode b_Ws_movedOutOf 7 = .ok (.aload_n 0, 1) := by decide +kernel
theorem d_Ws_movedOutOf_8 : decode b_Ws_movedOutOf 8 = .ok (.getfield 36, 3) := by decide +kernel
theorem d_Ws_movedOutOf_11 : decode b_Ws_movedOutOf 11 = .ok (.getfield 52, 3) := by decide +kernel
theorem d_Ws_movedOutOf_14 : decode b_Ws_movedOutOf 14 = .ok (.if_icmp .ge 38, 3) := by decide +kernel
theorem d_Ws_movedOutOf_17 : decode b_Ws_movedOutOf 17 = .ok (.lload_n 3, 1) := by decide +kernel
theorem d_Ws_movedOutOf_18 : decode b_Ws_movedOutOf 18 = .ok (.aload_n 0, 1) := by decide +kernel
theorem d_Ws_movedOutOf_19 : decode b_Ws_movedOutOf 19 = .ok (.aload_n 0, 1) := by decide +kernel
theorem d_Ws_movedOutOf_20 : decode b_Ws_movedOutOf 20 = .ok (.getfield 36, 3) := by decide +kernel
theorem d_Ws_movedOutOf_23 : decode b_Ws_movedOutOf 23 = .ok (.getfield 67, 3) := by decide +kernel
theorem d_Ws_movedOutOf_26 : decode b_Ws_movedOutOf 26 = .ok (.iload_n 2, 1) := by decide +kernel
theorem d_Ws_movedOutOf_27 : decode b_Ws_movedOutOf 27 = .ok (.aaload, 1) := by decide +kernel
theorem d_Ws_movedOutOf_28 : decode b_Ws_movedOutOf 28 = .ok (.iload 5, 2) := by decide +kernel
theorem d_Ws_movedOutOf_30 : decode b_Ws_movedOutOf 30 = .ok (.iaload, 1) := by decide +kernel
theorem d_Ws_movedOutOf_31 : decode b_Ws_movedOutOf 31 = .ok (.invokevirtual 71, 3) := by decide +kernel
theorem d_Ws_movedOutOf_34 : decode b_Ws_movedOutOf 34 = .ok (.aload_n 0, 1) := by decide +kernel
theorem d_Ws_movedOutOf_35 : decode b_Ws_movedOutOf 35 = .ok (.getfield 16, 3) := by decide +kernel
theorem d_Ws_movedOutOf_38 : decode b_Ws_movedOutOf 38 = .ok (.iload_n 1, 1) := by decide +kernel
theorem d_Ws_movedOutOf_39 : decode b_Ws_movedOutOf 39 = .ok (.aaload, 1) := by decide +kernel
theorem d_Ws_movedOutOf_40 : decode b_Ws_movedOutOf 40 = .ok (.iload 5, 2) := by decide +kernel
theorem d_Ws_movedOutOf_42 : decode b_Ws_movedOutOf 42 = .ok (.laload, 1) := by decide +kernel
theorem d_Ws_movedOutOf_43 : decode b_Ws_movedOutOf 43 = .ok (.lmul, 1) := by decide +kernel
theorem d_Ws_movedOutOf_44 : decode b_Ws_movedOutOf 44 = .ok (.ladd, 1) := by decide +kernel
theorem d_Ws_movedOutOf_45 : decode b_Ws_movedOutOf 45 = .ok (.lstore_n 3, 1) := by decide +kernel
theorem d_Ws_movedOutOf_46 : decode b_Ws_movedOutOf 46 = .ok (.iinc 5 1, 3) := by decide +kernel
theorem d_Ws_movedOutOf_49 : decode b_Ws_movedOutOf 49 = .ok (.goto (-44), 3) := by decide +kernel
theorem d_Ws_movedOutOf_52 : decode b_Ws_movedOutOf 52 = .ok (.lload_n 3, 1) := by decide +kernel
theorem d_Ws_movedOutOf_53 : decode b_Ws_movedOutOf 53 = .ok (.lreturn, 1) := by decide +kernel
theorem d_Ws_sumFromAhead_0 : decode b_Ws_sumFromAhead 0 = .ok (.iconst 0, 1) := by decide +kernel
theorem d_Ws_sumFromAhead_1 : decode b_Ws_sumFromAhead 1 = .ok (.istore_n 1, 1) := by decide +kernel
theorem d_Ws_sumFromAhead_2 : decode b_Ws_sumFromAhead 2 = .ok (.iload_n 1, 1) := by decide +kernel
theorem d_Ws_sumFromAhead_3 : decode b_Ws_sumFromAhead 3 = .ok (.aload_n 0, 1) := by decide +kernel
theorem d_Ws_sumFromAhead_4 : decode b_Ws_sumFromAhead 4 = .ok (.getfield 32, 3) := by decide +kernel
theorem d_Ws_sumFromAhead_7 : decode b_Ws_sumFromAhead 7 = .ok (.getfield 47, 3) := by decide +kernel
theorem d_Ws_sumFromAhead_10 : decode b_Ws_sumFromAhead 10 = .ok (.if_icmp .ge 101, 3) := by decide +kernel
theorem d_Ws_sumFromAhead_13 : decode b_Ws_sumFromAhead 13 = .ok (.iconst 0, 1) := by decide +kernel
theorem d_Ws_sumFromAhead_14 : decode b_Ws_sumFromAhead 14 = .ok (.istore_n 2, 1) := by decide +kernel
theorem d_Ws_sumFromAhead_15 : decode b_Ws_sumFromAhead 15 = .ok (.iload_n 2, 1) := by decide +kernel
theorem d_Ws_sumFromAhead_16 : decode b_Ws_sumFromAhead 16 = .ok (.aload_n 0, 1) := by decide +kernel
theorem d_Ws_sumFromAhead_17 : decode b_Ws_sumFromAhead 17 = .ok (.getfield 36, 3) := by decide +kernel
theorem d_Ws_sumFromAhead_20 : decode b_Ws_sumFromAhead 20 = .ok (.getfield 52, 3) := by decide +kernel
theorem d_Ws_sumFromAhead_23 : decode b_Ws_sumFromAhead 23 = .ok (.if_icmp .ge 45, 3) := by decide +kernel
theorem d_Ws_sumFromAhead_26 : decode b_Ws_sumFromAhead 26 = .ok (.aload_n 0, 1) := by decide +kernel
theorem d_Ws_sumFromAhead_27 : decode b_Ws_sumFromAhead 27 = .ok (.getfield 25, 3) := by decide +kernel
theorem d_Ws_sumFromAhead_30 : decode b_Ws_sumFromAhead 30 = .ok (.iload_n 1, 1) := by decide +kernel
theorem d_Ws_sumFromAhead_31 : decode b_Ws_sumFromAhead 31 = .ok (.aaload, 1) := by decide +kernel
theorem d_Ws_sumFromAhead_32 : decode b_Ws_sumFromAhead 32 = .ok (.iload_n 2, 1) := by decide +kernel
theorem d_Ws_sumFromAhead_33 : decode b_Ws_sumFromAhead 33 = .ok (.iload_n 1, 1) := by decide +kernel
theorem d_Ws_sumFromAhead_34 : decode b_Ws_sumFromAhead 34 = .ok (.ifCond .ne 21, 3) := by decide +kernel
theorem d_Ws_sumFromAhead_37 : decode b_Ws_sumFromAhead 37 = .ok (.aload_n 0, 1) := by decide +kernel
theorem d_Ws_sumFromAhead_38 : decode b_Ws_sumFromAhead 38 = .ok (.aload_n 0, 1) := by decide +kernel
theorem d_Ws_sumFromAhead_39 : decode b_Ws_sumFromAhead 39 = .ok (.getfield 36, 3) := by decide +kernel
theorem d_Ws_sumFromAhead_42 : decode b_Ws_sumFromAhead 42 = .ok (.getfield 78, 3) := by decide +kernel
theorem d_Ws_sumFromAhead_45 : decode b_Ws_sumFromAhead 45 = .ok (.iload_n 2, 1) := by decide +kernel
theorem d_Ws_sumFromAhead_46 : decode b_Ws_sumFromAhead 46 = .ok (.aaload, 1) := by decide +kernel
theorem d_Ws_sumFromAhead_47 : decode b_Ws_sumFromAhead 47 = .ok (.iconst 0, 1) := by decide +kernel
theorem d_Ws_sumFromAhead_48 : decode b_Ws_sumFromAhead 48 = .ok (.iaload, 1) := by decide +kernel
theorem d_Ws_sumFromAhead_49 : decode b_Ws_sumFromAhead 49 = .ok (.invokevirtual 71, 3) := by decide +kernel
theorem d_Ws_sumFromAhead_52 : decode b_Ws_sumFromAhead 52 = .ok (.goto 9, 3) := by decide +kernel
theorem d_Ws_sumFromAhead_55 : decode b_Ws_sumFromAhead 55 = .ok (.aload_n 0, 1) := by decide +kernel
theorem d_Ws_sumFromAhead_56 : decode b_Ws_sumFromAhead 56 = .ok (.iload_n 1, 1) := by decide +kernel
theorem d_Ws_sumFromAhead_57 : decode b_Ws_sumFromAhead 57 = .ok (.iload_n 2, 1) := by decide +kernel
theorem d_Ws_sumFromAhead_58 : decode b_Ws_sumFromAhead 58 = .ok (.invokevirtual 104, 3) := by decide +kernel
theorem d_Ws_sumFromAhead_61 : decode b_Ws_sumFromAhead 61 = .ok (.lastore, 1) := by decide +kernel
theorem d_Ws_sumFromAhead_62 : decode b_Ws_sumFromAhead 62 = .ok (.iinc 2 1, 3) := by decide +kernel
theorem d_Ws_sumFromAhead_65 : decode b_Ws_sumFromAhead 65 = .ok (.goto (-50), 3) := by decide +kernel
theorem d_Ws_sumFromAhead_68 : decode b_Ws_sumFromAhead 68 = .ok (.iconst 0, 1) := by decide +kernel
theorem d_Ws_sumFromAhead_69 : decode b_Ws_sumFromAhead 69 = .ok (.istore_n 2, 1) := by decide +kernel
theorem d_Ws_sumFromAhead_70 : decode b_Ws_sumFromAhead 70 = .ok (.iload_n 2, 1) := by decide +kernel
theorem d_Ws_sumFromAhead_71 : decode b_Ws_sumFromAhead 71 = .ok (.aload_n 0, 1) := by decide +kernel
theorem d_Ws_sumFromAhead_72 : decode b_Ws_sumFromAhead 72 = .ok (.getfield 36, 3) := by decide +kernel
theorem d_Ws_sumFromAhead_75 : decode b_Ws_sumFromAhead 75 = .ok (.getfield 52, 3) := by decide +kernel
theorem d_Ws_sumFromAhead_78 : decode b_Ws_sumFromAhead 78 = .ok (.if_icmp .ge 27, 3) := by decide +kernel
theorem d_Ws_sumFromAhead_81 : decode b_Ws_sumFromAhead 81 = .ok (.aload_n 0, 1) := by decide +kernel
theorem d_Ws_sumFromAhead_82 : decode b_Ws_sumFromAhead 82 = .ok (.getfield 22, 3) := by decide +kernel
theorem d_Ws_sumFromAhead_85 : decode b_Ws_sumFromAhead 85 = .ok (.iload_n 1, 1) := by decide +kernel
theorem d_Ws_sumFromAhead_86 : decode b_Ws_sumFromAhead 86 = .ok (.iconst 1, 1) := by decide +kernel
theorem d_Ws_sumFromAhead_87 : decode b_Ws_sumFromAhead 87 = .ok (.iadd, 1) := by decide +kernel
theorem d_Ws_sumFromAhead_88 : decode b_Ws_sumFromAhead 88 = .ok (.aaload, 1) := by decide +kernel
theorem d_Ws_sumFromAhead_89 : decode b_Ws_sumFromAhead 89 = .ok (.iload_n 2, 1) := by decide +kernel
theorem d_Ws_sumFromAhead_90 : decode b_Ws_sumFromAhead 90 = .ok (.aload_n 0, 1) := by decide +kernel
theorem d_Ws_sumFromAhead_91 : decode b_Ws_sumFromAhead 91 = .ok (.iload_n 1, 1) := by decide +kernel
theorem d_Ws_sumFromAhead_92 : decode b_Ws_sumFromAhead 92 = .ok (.iconst 1, 1) := by decide +kernel
theorem d_Ws_sumFromAhead_93 : decode b_Ws_sumFromAhead 93 = .ok (.iadd, 1) := by decide +kernel
theorem d_Ws_sumFromAhead_94 : decode b_Ws_sumFromAhead 94 = .ok (.iload_n 2, 1) := by decide +kernel
theorem d_Ws_sumFromAhead_95 : decode b_Ws_sumFromAhead 95 = .ok (.invokevirtual 107, 3) := by decide +kernel
theorem d_Ws_sumFromAhead_98 : decode b_Ws_sumFromAhead 98 = .ok (.lastore, 1) := by decide +kernel
theorem d_Ws_sumFromAhead_99 : decode b_Ws_sumFromAhead 99 = .ok (.iinc 2 1, 3) := by decide +kernel
theorem d_Ws_sumFromAhead_102 : decode b_Ws_sumFromAhead 102 = .ok (.goto (-32), 3) := by decide +kernel
theorem d_Ws_sumFromAhead_105 : decode b_Ws_sumFromAhead 105 = .ok (.iinc 1 1, 3) := by decide +kernel
theorem d_Ws_sumFromAhead_108 : decode b_Ws_sumFromAhead 108 = .ok (.goto (-106), 3) := by decide +kernel
theorem d_Ws_sumFromAhead_111 : decode b_Ws_sumFromAhead 111 = .ok (.return_, 1) := by decide +kernel
theorem d_Ws_movedInto_0 : decode b_Ws_movedInto 0 = .ok (.lconst 0, 1) := by decide +kernel
theorem d_Ws_movedInto_1 : decode b_Ws_movedInto 1 = .ok (.lstore_n 3, 1) := by decide +kernel
theorem d_Ws_movedInto_2 : decode b_Ws_movedInto 2 = .ok (.iconst 0, 1) := by decide +kernel
theorem d_Ws_movedInto_3 : decode b_Ws_movedInto 3 = .ok (.istore 5, 2) := by decide +kernel
theorem d_Ws_movedInto_5 : decode b_Ws_movedInto 5 = .ok (.iload 5, 2) := by decide +kernel
theorem d_Ws_movedInto_7 : decode b_Ws_movedInto 7 = .ok (.aload_n 0, 1) := by decide +kernel
theorem d_Ws_movedInto_8 : decode b_Ws_movedInto 8 = .ok (.getfield 36, 3) := by decide +kernel
theorem d_Ws_movedInto_11 : decode b_Ws_movedInto 11 = .ok (.getfield 52, 3) := by decide +kernel
theorem d_Ws_movedInto_14 : decode b_Ws_movedInto 14 = .ok (.if_icmp .ge 38, 3) := by decide +kernel
theorem d_Ws_movedInto_17 : decode b_Ws_movedInto 17 = .ok (.lload_n 3, 1) := by decide +kernel
theorem d_Ws_movedInto_18 : decode b_Ws_movedInto 18 = .ok (.aload_n 0, 1) := by decide +kernel
theorem d_Ws_movedInto_19 : decode b_Ws_movedInto 19 = .ok (.getfield 22, 3) := by decide +kernel
theorem d_Ws_movedInto_22 : decode b_Ws_movedInto 22 = .ok (.iload_n 1, 1) := by decide +kernel
theorem d_Ws_movedInto_23 : decode b_Ws_movedInto 23 = .ok (.aaload, 1) := by decide +kernel
theorem d_Ws_movedInto_24 : decode b_Ws_movedInto 24 = .ok (.iload 5, 2) := by decide +kernel
theorem d_Ws_movedInto_26 : decode b_Ws_movedInto 26 = .ok (.laload, 1) := by decide +kernel
theorem d_Ws_movedInto_27 : decode b_Ws_movedInto 27 = .ok (.aload_n 0, 1) := by decide +kernel
theorem d_Ws_movedInto_28 : decode b_Ws_movedInto 28 = .ok (.aload_n 0, 1) := by decide +kernel
theorem d_Ws_movedInto_29 : decode b_Ws_movedInto 29 = .ok (.getfield 36, 3) := by decide +kernel
theorem d_Ws_movedInto_32 : decode b_Ws_movedInto 32 = .ok (.getfield 67, 3) := by decide +kernel
theorem d_Ws_movedInto_35 : decode b_Ws_movedInto 35 = .ok (.iload 5, 2) := by decide +kernel
theorem d_Ws_movedInto_37 : decode b_Ws_movedInto 37 = .ok (.aaload, 1) := by decide +kernel
theorem d_Ws_movedInto_38 : decode b_Ws_movedInto 38 = .ok (.iload_n 2, 1) := by decide +kernel
theorem d_Ws_movedInto_39 : decode b_Ws_movedInto 39 = .ok (.iaload, 1) := by decide +kernel
theorem d_Ws_movedInto_40 : decode b_Ws_movedInto 40 = .ok (.invokevirtual 71, 3) := by decide +kernel
theorem d_Ws_movedInto_43 : decode b_Ws_movedInto 43 = .ok (.lmul, 1) := by decide +kernel
theorem d_Ws_movedInto_44 : decode b_Ws_movedInto 44 = .ok (.ladd, 1) := by decide +kernel
theorem d_Ws_movedInto_45 : decode b_Ws_movedInto 45 = .ok (.lstore_n 3, 1) := by decide +kernel
theorem d_Ws_movedInto_46 : decode b_Ws_movedInto 46 = .ok (.iinc 5 1, 3) := by decide +kernel
theorem d_Ws_movedInto_49 : decode b_Ws_movedInto 49 = .ok (.goto (-44), 3) := by decide +kernel
theorem d_Ws_movedInto_52 : decode b_Ws_movedInto 52 = .ok (.lload_n 3, 1) := by decide +kernel
theorem d_Ws_movedInto_53 : decode b_Ws_movedInto 53 = .ok (.lreturn, 1) := by decide +kernel
theorem d_Ws_endedBefore_0 : decode b_Ws_endedBefore 0 = .ok (.lconst 0, 1) := by decide +kernel
theorem d_Ws_endedBefore_1 : decode b_Ws_endedBefore 1 = .ok (.lstore_n 3, 1) := by decide +kernel
theorem d_Ws_endedBefore_2 : decode b_Ws_endedBefore 2 = .ok (.iconst 1, 1) := by decide +kernel
theorem d_Ws_endedBefore_3 : decode b_Ws_endedBefore 3 = .ok (.istore 5, 2) := by decide +kernel
theorem d_Ws_endedBefore_5 : decode b_Ws_endedBefore 5 = .ok (.iload 5, 2) := by decide +kernel
theorem d_Ws_endedBefore_7 : decode b_Ws_endedBefore 7 = .ok (.iconst 3, 1) := by decide +kernel
theorem d_Ws_endedBefore_8 : decode b_Ws_endedBefore 8 = .ok (.if_icmp .gt 41, 3) := by decide +kernel
theorem d_Ws_endedBefore_11 : decode b_Ws_endedBefore 11 = .ok (.iload 5, 2) := by decide +kernel
theorem d_Ws_endedBefore_13 : decode b_Ws_endedBefore 13 = .ok (.iload_n 1, 1) := by decide +kernel
theorem d_Ws_endedBefore_14 : decode b_Ws_endedBefore 14 = .ok (.if_icmp .gt 35, 3) := by decide +kernel
theorem d_Ws_endedBefore_17 : decode b_Ws_endedBefore 17 = .ok (.lload_n 3, 1) := by decide +kernel
theorem d_Ws_endedBefore_18 : decode b_Ws_endedBefore 18 = .ok (.aload_n 0, 1) := by decide +kernel
theorem d_Ws_endedBefore_19 : decode b_Ws_endedBefore 19 = .ok (.getfield 25, 3) := by decide +kernel
theorem d_Ws_endedBefore_22 : decode b_Ws_endedBefore 22 = .ok (.iload_n 1, 1) := by decide +kernel
theorem d_Ws_endedBefore_23 : decode b_Ws_endedBefore 23 = .ok (.iload 5, 2) := by decide +kernel
theorem d_Ws_endedBefore_25 : decode b_Ws_endedBefore 25 = .ok (.isub, 1) := by decide +kernel
theorem d_Ws_endedBefore_26 : decode b_Ws_endedBefore 26 = .ok (.aaload, 1) := by decide +kernel
theorem d_Ws_endedBefore_27 : decode b_Ws_endedBefore 27 = .ok (.iload_n 2, 1) := by decide +kernel
theorem d_Ws_endedBefore_28 : decode b_Ws_endedBefore 28 = .ok (.laload, 1) := by decide +kernel
theorem d_Ws_endedBefore_29 : decode b_Ws_endedBefore 29 = .ok (.aload_n 0, 1) := by decide +kernel
theorem d_Ws_endedBefore_30 : decode b_Ws_endedBefore 30 = .ok (.iload_n 1, 1) := by decide +kernel
theorem d_Ws_endedBefore_31 : decode b_Ws_endedBefore 31 = .ok (.iload 5, 2) := by decide +kernel
theorem d_Ws_endedBefore_33 : decode b_Ws_endedBefore 33 = .ok (.isub, 1) := by decide +kernel
theorem d_Ws_endedBefore_34 : decode b_Ws_endedBefore 34 = .ok (.iload 5, 2) := by decide +kernel
theorem d_Ws_endedBefore_36 : decode b_Ws_endedBefore 36 = .ok (.iload_n 2, 1) := by decide +kernel
theorem d_Ws_endedBefore_37 : decode b_Ws_endedBefore 37 = .ok (.invokevirtual 75, 3) := by decide +kernel
theorem d_Ws_endedBefore_40 : decode b_Ws_endedBefore 40 = .ok (.lmul, 1) := by decide +kernel
theorem d_Ws_endedBefore_41 : decode b_Ws_endedBefore 41 = .ok (.ladd, 1) := by decide +kernel
theorem d_Ws_endedBefore_42 : decode b_Ws_endedBefore 42 = .ok (.lstore_n 3, 1) := by decide +kernel
theorem d_Ws_endedBefore_43 : decode b_Ws_endedBefore 43 = .ok (.iinc 5 1, 3) := by decide +kernel
theorem d_Ws_endedBefore_46 : decode b_Ws_endedBefore 46 = .ok (.goto (-41), 3) := by decide +kernel
theorem d_Ws_endedBefore_49 : decode b_Ws_endedBefore 49 = .ok (.lload_n 3, 1) := by decide +kernel
theorem d_Ws_endedBefore_50 : decode b_Ws_endedBefore 50 = .ok (.lreturn, 1) := by decide +kernel
theorem d_Ws_over_0 : decode b_Ws_over 0 = .ok (.aload_n 0, 1) := by decide +kernel
theorem d_Ws_over_1 : decode b_Ws_over 1 = .ok (.invokevirtual 44, 3) := by decide +kernel
theorem d_Ws_over_4 : decode b_Ws_over 4 = .ok (.lconst 0, 1) := by decide +kernel
theorem d_Ws_over_5 : decode b_Ws_over 5 = .ok (.lstore_n 3, 1) := by decide +kernel
theorem d_Ws_over_6 : decode b_Ws_over 6 = .ok (.iconst 0, 1) := by decide +kernel
theorem d_Ws_over_7 : decode b_Ws_over 7 = .ok (.iload_n 1, 1) := by decide +kernel
theorem d_Ws_over_8 : decode b_Ws_over 8 = .ok (.iconst 3, 1) := by decide +kernel
theorem d_Ws_over_9 : decode b_Ws_over 9 = .ok (.isub, 1) := by decide +kernel
theorem d_Ws_over_10 : decode b_Ws_over 10 = .ok (.iconst 1, 1) := by decide +kernel
theorem d_Ws_over_11 : decode b_Ws_over 11 = .ok (.iadd, 1) := by decide +kernel
theorem d_Ws_over_12 : decode b_Ws_over 12 = .ok (.invokestatic 57, 3) := by decide +kernel
theorem d_Ws_over_15 : decode b_Ws_over 15 = .ok (.istore 5, 2) := by decide +kernel
theorem d_Ws_over_17 : decode b_Ws_over 17 = .ok (.iload 5, 2) := by decide +kernel
theorem d_Ws_over_19 : decode b_Ws_over 19 = .ok (.iload_n 1, 1) := by decide +kernel
theorem d_Ws_over_20 : decode b_Ws_over 20 = .ok (.if_icmp .gt 33, 3) := by decide +kernel
theorem d_Ws_over_23 : decode b_Ws_over 23 = .ok (.lload_n 3, 1) := by decide +kernel
theorem d_Ws_over_24 : decode b_Ws_over 24 = .ok (.aload_n 0, 1) := by decide +kernel
theorem d_Ws_over_25 : decode b_Ws_over 25 = .ok (.getfield 25, 3) := by decide +kernel
theorem d_Ws_over_28 : decode b_Ws_over 28 = .ok (.iload 5, 2) := by decide +kernel
theorem d_Ws_over_30 : decode b_Ws_over 30 = .ok (.aaload, 1) := by decide +kernel
theorem d_Ws_over_31 : decode b_Ws_over 31 = .ok (.iload_n 2, 1) := by decide +kernel
theorem d_Ws_over_32 : decode b_Ws_over 32 = .ok (.laload, 1) := by decide +kernel
theorem d_Ws_over_33 : decode b_Ws_over 33 = .ok (.aload_n 0, 1) := by decide +kernel
theorem d_Ws_over_34 : decode b_Ws_over 34 = .ok (.iload_n 1, 1) := by decide +kernel
theorem d_Ws_over_35 : decode b_Ws_over 35 = .ok (.iload 5, 2) := by decide +kernel
theorem d_Ws_over_37 : decode b_Ws_over 37 = .ok (.isub, 1) := by decide +kernel
theorem d_Ws_over_38 : decode b_Ws_over 38 = .ok (.iload 5, 2) := by decide +kernel
theorem d_Ws_over_40 : decode b_Ws_over 40 = .ok (.iload_n 2, 1) := by decide +kernel
theorem d_Ws_over_41 : decode b_Ws_over 41 = .ok (.invokevirtual 63, 3) := by decide +kernel
theorem d_Ws_over_44 : decode b_Ws_over 44 = .ok (.lmul, 1) := by decide +kernel
theorem d_Ws_over_45 : decode b_Ws_over 45 = .ok (.ladd, 1) := by decide +kernel
theorem d_Ws_over_46 : decode b_Ws_over 46 = .ok (.lstore_n 3, 1) := by decide +kernel
theorem d_Ws_over_47 : decode b_Ws_over 47 = .ok (.iinc 5 1, 3) := by decide +kernel
theorem d_Ws_over_50 : decode b_Ws_over 50 = .ok (.goto (-33), 3) := by decide +kernel
theorem d_Ws_over_53 : decode b_Ws_over 53 = .ok (.lload_n 3, 1) := by decide +kernel
theorem d_Ws_over_54 : decode b_Ws_over 54 = .ok (.lreturn, 1) := by decide +kernel
theorem d_Ws_beginning_0 : decode b_Ws_beginning 0 = .ok (.aload_n 0, 1) := by decide +kernel
theorem d_Ws_beginning_1 : decode b_Ws_beginning 1 = .ok (.invokevirtual 44, 3) := by decide +kernel
theorem d_Ws_beginning_4 : decode b_Ws_beginning 4 = .ok (.aload_n 0, 1) := by decide +kernel
theorem d_Ws_beginning_5 : decode b_Ws_beginning 5 = .ok (.getfield 25, 3) := by decide +kernel
theorem d_Ws_beginning_8 : decode b_Ws_beginning 8 = .ok (.iload_n 1, 1) := by decide +kernel
theorem d_Ws_beginning_9 : decode b_Ws_beginning 9 = .ok (.aaload, 1) := by decide +kernel
theorem d_Ws_beginning_10 : decode b_Ws_beginning 10 = .ok (.iload_n 2, 1) := by decide +kernel
theorem d_Ws_beginning_11 : decode b_Ws_beginning 11 = .ok (.laload, 1) := by decide +kernel
theorem d_Ws_beginning_12 : decode b_Ws_beginning 12 = .ok (.aload_n 0, 1) := by decide +kernel
theorem d_Ws_beginning_13 : decode b_Ws_beginning 13 = .ok (.getfield 16, 3) := by decide +kernel
theorem d_Ws_beginning_16 : decode b_Ws_beginning 16 = .ok (.iload_n 1, 1) := by decide +kernel
theorem d_Ws_beginning_17 : decode b_Ws_beginning 17 = .ok (.aaload, 1) := by decide +kernel
theorem d_Ws_beginning_18 : decode b_Ws_beginning 18 = .ok (.iload_n 2, 1) := by decide +kernel
theorem d_Ws_beginning_19 : decode b_Ws_beginning 19 = .ok (.laload, 1) := by decide +kernel
theorem d_Ws_beginning_20 : decode b_Ws_beginning 20 = .ok (.lmul, 1) := by decide +kernel
theorem d_Ws_beginning_21 : decode b_Ws_beginning 21 = .ok (.lreturn, 1) := by decide +kernel
theorem d_Ws_moving_0 : decode b_Ws_moving 0 = .ok (.aload_n 0, 1) := by decide +kernel
theorem d_Ws_moving_1 : decode b_Ws_moving 1 = .ok (.invokevirtual 44, 3) := by decide +kernel
theorem d_Ws_moving_4 : decode b_Ws_moving 4 = .ok (.aload_n 0, 1) := by decide +kernel
theorem d_Ws_moving_5 : decode b_Ws_moving 5 = .ok (.getfield 22, 3) := by decide +kernel
theorem d_Ws_moving_8 : decode b_Ws_moving 8 = .ok (.iload_n 1, 1) := by decide +kernel
theorem d_Ws_moving_9 : decode b_Ws_moving 9 = .ok (.aaload, 1) := by decide +kernel
theorem d_Ws_moving_10 : decode b_Ws_moving 10 = .ok (.iload_n 2, 1) := by decide +kernel
theorem d_Ws_moving_11 : decode b_Ws_moving 11 = .ok (.laload, 1) := by decide +kernel
theorem d_Ws_moving_12 : decode b_Ws_moving 12 = .ok (.aload_n 0, 1) := by decide +kernel
theorem d_Ws_moving_13 : decode b_Ws_moving 13 = .ok (.aload_n 0, 1) := by decide +kernel
theorem d_Ws_moving_14 : decode b_Ws_moving 14 = .ok (.getfield 36, 3) := by decide +kernel
theorem d_Ws_moving_17 : decode b_Ws_moving 17 = .ok (.getfield 67, 3) := by decide +kernel
theorem d_Ws_moving_20 : decode b_Ws_moving 20 = .ok (.iload_n 2, 1) := by decide +kernel
theorem d_Ws_moving_21 : decode b_Ws_moving 21 = .ok (.aaload, 1) := by decide +kernel
theorem d_Ws_moving_22 : decode b_Ws_moving 22 = .ok (.iload_n 3, 1) := by decide +kernel
theorem d_Ws_moving_23 : decode b_Ws_moving 23 = .ok (.iaload, 1) := by decide +kernel
theorem d_Ws_moving_24 : decode b_Ws_moving 24 = .ok (.invokevirtual 71, 3) := by decide +kernel
theorem d_Ws_moving_27 : decode b_Ws_moving 27 = .ok (.lmul, 1) := by decide +kernel
theorem d_Ws_moving_28 : decode b_Ws_moving 28 = .ok (.aload_n 0, 1) := by decide +kernel
theorem d_Ws_moving_29 : decode b_Ws_moving 29 = .ok (.getfield 16, 3) := by decide +kernel
theorem d_Ws_moving_32 : decode b_Ws_moving 32 = .ok (.iload_n 1, 1) := by decide +kernel
theorem d_Ws_moving_33 : decode b_Ws_moving 33 = .ok (.aaload, 1) := by decide +kernel
theorem d_Ws_moving_34 : decode b_Ws_moving 34 = .ok (.iload_n 3, 1) := by decide +kernel
theorem d_Ws_moving_35 : decode b_Ws_moving 35 = .ok (.laload, 1) := by decide +kernel
theorem d_Ws_moving_36 : decode b_Ws_moving 36 = .ok (.lmul, 1) := by decide +kernel
theorem d_Ws_moving_37 : decode b_Ws_moving 37 = .ok (.lreturn, 1) := by decide +kernel
end
section
theorem d_Wl_init_0 : decode b_Wl_init 0 = .ok (.aload_n 0, 1) := by decide +kernel
theorem d_Wl_init_1 : decode b_Wl_init 1 = .ok (.invokespecial 3, 3) := by decide +kernel
theorem d_Wl_init_4 : decode b_Wl_init 4 = .ok (.aload_n 0, 1) := by decide +kernel
theorem d_Wl_init_5 : decode b_Wl_init 5 = .ok (.bipush 10, 2) := by decide +kernel
theorem d_Wl_init_7 : decode b_Wl_init 7 = .ok (.newarray .long, 2) := by decide +kernel
theorem d_Wl_init_9 : decode b_Wl_init 9 = .ok (.putfield 9, 3) := by decide +kernel
theorem d_Wl_init_12 : decode b_Wl_init 12 = .ok (.aload_n 0, 1) := by decide +kernel
theorem d_Wl_init_13 : decode b_Wl_init 13 = .ok (.bipush 10, 2) := by decide +kernel
theorem d_Wl_init_15 : decode b_Wl_init 15 = .ok (.newarray .int, 2) := by decide +kernel
theorem d_Wl_init_17 : decode b_Wl_init 17 = .ok (.putfield 15, 3) := by decide +kernel
theorem d_Wl_init_20 : decode b_Wl_init 20 = .ok (.aload_n 0, 1) := by decide +kernel
theorem d_Wl_init_21 : decode b_Wl_init 21 = .ok (.iconst 0, 1) := by decide +kernel
theorem d_Wl_init_22 : decode b_Wl_init 22 = .ok (.putfield 19, 3) := by decide +kernel
theorem d_Wl_init_25 : decode b_Wl_init 25 = .ok (.return_, 1) := by decide +kernel
theorem d_Wl_offer_0 : decode b_Wl_offer 0 = .ok (.lload_n 1, 1) := by decide +kernel
theorem d_Wl_offer_1 : decode b_Wl_offer 1 = .ok (.lconst 0, 1) := by decide +kernel
theorem d_Wl_offer_2 : decode b_Wl_offer 2 = .ok (.lcmp, 1) := by decide +kernel
theorem d_Wl_offer_3 : decode b_Wl_offer 3 = .ok (.ifCond .gt 5, 3) := by decide +kernel
theorem d_Wl_offer_6 : decode b_Wl_offer 6 = .ok (.iconst 0, 1) := by decide +kernel
theorem d_Wl_offer_7 : decode b_Wl_offer 7 = .ok (.ireturn, 1) := by decide +kernel
theorem d_Wl_offer_8 : decode b_Wl_offer 8 = .ok (.aload_n 0, 1) := by decide +kernel
theorem d_Wl_offer_9 : decode b_Wl_offer 9 = .ok (.getfield 19, 3) := by decide +kernel
theorem d_Wl_offer_12 : decode b_Wl_offer 12 = .ok (.istore 4, 2) := by decide +kernel
theorem d_Wl_offer_14 : decode b_Wl_offer 14 = .ok (.iload 4, 2) := by decide +kernel
theorem d_Wl_offer_16 : decode b_Wl_offer 16 = .ok (.ifCond .le 22, 3) := by decide +kernel
theorem d_Wl_offer_19 : decode b_Wl_offer 19 = .ok (.aload_n 0, 1) := by decide +kernel
theorem d_Wl_offer_20 : decode b_Wl_offer 20 = .ok (.lload_n 1, 1) := by decide +kernel
theorem d_Wl_offer_21 : decode b_Wl_offer 21 = .ok (.iload_n 3, 1) := by decide +kernel
theorem d_Wl_offer_22 : decode b_Wl_offer 22 = .ok (.iload 4, 2) := by decide +kernel
theorem d_Wl_offer_24 : decode b_Wl_offer 24 = .ok (.iconst 1, 1) := by decide +kernel
theorem d_Wl_offer_25 : decode b_Wl_offer 25 = .ok (.isub, 1) := by decide +kernel
theorem d_Wl_offer_26 : decode b_Wl_offer 26 = .ok (.invokevirtual 23, 3) := by decide +kernel
theorem d_Wl_offer_29 : decode b_Wl_offer 29 = .ok (.ifCond .eq 9, 3) := by decide +kernel
theorem d_Wl_offer_32 : decode b_Wl_offer 32 = .ok (.iinc 4 (-1), 3) := by decide +kernel
theorem d_Wl_offer_35 : decode b_Wl_offer 35 = .ok (.goto (-21), 3) := by decide +kernel
theorem d_Wl_offer_38 : decode b_Wl_offer 38 = .ok (.iload 4, 2) := by decide +kernel
theorem d_Wl_offer_40 : decode b_Wl_offer 40 = .ok (.bipush 10, 2) := by decide +kernel
theorem d_Wl_offer_42 : decode b_Wl_offer 42 = .ok (.if_icmp .lt 5, 3) := by decide +kernel
theorem d_Wl_offer_45 : decode b_Wl_offer 45 = .ok (.iconst 0, 1) := by decide +kernel
theorem d_Wl_offer_46 : decode b_Wl_offer 46 = .ok (.ireturn, 1) := by decide +kernel
theorem d_Wl_offer_47 : decode b_Wl_offer 47 = .ok (.aload_n 0, 1) := by decide +kernel
theorem d_Wl_offer_48 : decode b_Wl_offer 48 = .ok (.aload_n 0, 1) := by decide +kernel
theorem d_Wl_offer_49 : decode b_Wl_offer 49 = .ok (.getfield 19, 3) := by decide +kernel
theorem d_Wl_offer_52 : decode b_Wl_offer 52 = .ok (.iconst 1, 1) := by decide +kernel
theorem d_Wl_offer_53 : decode b_Wl_offer 53 = .ok (.iadd, 1) := by decide +kernel
theorem d_Wl_offer_54 : decode b_Wl_offer 54 = .ok (.bipush 10, 2) := by decide +kernel
theorem d_Wl_offer_56 : decode b_Wl_offer 56 = .ok (.invokestatic 27, 3) := by decide +kernel
theorem d_Wl_offer_59 : decode b_Wl_offer 59 = .ok (.putfield 19, 3) := by decide +kernel
theorem d_Wl_offer_62 : decode b_Wl_offer 62 = .ok (.aload_n 0, 1) := by decide +kernel
theorem d_Wl_offer_63 : decode b_Wl_offer 63 = .ok (.getfield 19, 3) := by decide +kernel
theorem d_Wl_offer_66 : decode b_Wl_offer 66 = .ok (.iconst 1, 1) := by decide +kernel
theorem d_Wl_offer_67 : decode b_Wl_offer 67 = .ok (.isub, 1) := by decide +kernel
theorem d_Wl_offer_68 : decode b_Wl_offer 68 = .ok (.istore 5, 2) := by decide +kernel
theorem d_Wl_offer_70 : decode b_Wl_offer 70 = .ok (.iload 5, 2) := by decide +kernel
theorem d_Wl_offer_72 : decode b_Wl_offer 72 = .ok (.iload 4, 2) := by decide +kernel
theorem d_Wl_offer_74 : decode b_Wl_offer 74 = .ok (.if_icmp .le 41, 3) := by decide +kernel
theorem d_Wl_offer_77 : decode b_Wl_offer 77 = .ok (.aload_n 0, 1) := by decide +kernel
theorem d_Wl_offer_78 : decode b_Wl_offer 78 = .ok (.getfield 9, 3) := by decide +kernel
theorem d_Wl_offer_81 : decode b_Wl_offer 81 = .ok (.iload 5, 2) := by decide +kernel
theorem d_Wl_offer_83 : decode b_Wl_offer 83 = .ok (.aload_n 0, 1) := by decide +kernel
theorem d_Wl_offer_84 : decode b_Wl_offer 84 = .ok (.getfield 9, 3) := by decide +kernel
theorem d_Wl_offer_87 : decode b_Wl_offer 87 = .ok (.iload 5, 2) := by decide +kernel
theorem d_Wl_offer_89 : decode b_Wl_offer 89 = .ok (.iconst 1, 1) := by decide +kernel
theorem d_Wl_offer_90 : decode b_Wl_offer 90 = .ok (.isub, 1) := by decide +kernel
theorem d_Wl_offer_91 : decode b_Wl_offer 91 = .ok (.laload, 1) := by decide +kernel
theorem d_Wl_offer_92 : decode b_Wl_offer 92 = .ok (.lastore, 1) := by decide +kernel
theorem d_Wl_offer_93 : decode b_Wl_offer 93 = .ok (.aload_n 0, 1) := by decide +kernel
theorem d_Wl_offer_94 : decode b_Wl_offer 94 = .ok (.getfield 15, 3) := by decide +kernel
theorem d_Wl_offer_97 : decode b_Wl_offer 97 = .ok (.iload 5, 2) := by decide +kernel
theorem d_Wl_offer_99 : decode b_Wl_offer 99 = .ok (.aload_n 0, 1) := by decide +kernel
theorem d_Wl_offer_100 : decode b_Wl_offer 100 = .ok (.getfield 15, 3) := by decide +kernel
theorem d_Wl_offer_103 : decode b_Wl_offer 103 = .ok (.iload 5, 2) := by decide +kernel
theorem d_Wl_offer_105 : decode b_Wl_offer 105 = .ok (.iconst 1, 1) := by decide +kernel
theorem d_Wl_offer_106 : decode b_Wl_offer 106 = .ok (.isub, 1) := by decide +kernel
theorem d_Wl_offer_107 : decode b_Wl_offer 107 = .ok (.iaload, 1) := by decide +kernel
theorem d_Wl_offer_108 : decode b_Wl_offer 108 = .ok (.iastore, 1) := by decide +kernel
theorem d_Wl_offer_109 : decode b_Wl_offer 109 = .ok (.iinc 5 (-1), 3) := by decide +kernel
theorem d_Wl_offer_112 : decode b_Wl_offer 112 = .ok (.goto (-42), 3) := by decide +kernel
theorem d_Wl_offer_115 : decode b_Wl_offer 115 = .ok (.aload_n 0, 1) := by decide +kernel
theorem d_Wl_offer_116 : decode b_Wl_offer 116 = .ok (.getfield 9, 3) := by decide +kernel
theorem d_Wl_offer_119 : decode b_Wl_offer 119 = .ok (.iload 4, 2) := by decide +kernel
theorem d_Wl_offer_121 : decode b_Wl_offer 121 = .ok (.lload_n 1, 1) := by decide +kernel
theorem d_Wl_offer_122 : decode b_Wl_offer 122 = .ok (.lastore, 1) := by decide +kernel
theorem d_Wl_offer_123 : decode b_Wl_offer 123 = .ok (.aload_n 0, 1) := by decide +kernel
theorem d_Wl_offer_124 : decode b_Wl_offer 124 = .ok (.getfield 15, 3) := by decide +kernel
theorem d_Wl_offer_127 : decode b_Wl_offer 127 = .ok (.iload 4, 2) := by decide +kernel
theorem d_Wl_offer_129 : decode b_Wl_offer 129 = .ok (.iload_n 3, 1) := by decide +kernel
theorem d_Wl_offer_130 : decode b_Wl_offer 130 = .ok (.iastore, 1) := by decide +kernel
theorem d_Wl_offer_131 : decode b_Wl_offer 131 = .ok (.iconst 1, 1) := by decide +kernel
theorem d_Wl_offer_132 : decode b_Wl_offer 132 = .ok (.ireturn, 1) := by decide +kernel
theorem d_Wl_isBetter_0 : decode b_Wl_isBetter 0 = .ok (.lload_n 1, 1) := by decide +kernel
theorem d_Wl_isBetter_1 : decode b_Wl_isBetter 1 = .ok (.aload_n 0, 1) := by decide +kernel
theorem d_Wl_isBetter_2 : decode b_Wl_isBetter 2 = .ok (.getfield 9, 3) := by decide +kernel
theorem d_Wl_isBetter_5 : decode b_Wl_isBetter 5 = .ok (.iload 4, 2) := by decide +kernel
theorem d_Wl_isBetter_7 : decode b_Wl_isBetter 7 = .ok (.laload, 1) := by decide +kernel
theorem d_Wl_isBetter_8 : decode b_Wl_isBetter 8 = .ok (.lcmp, 1) := by decide +kernel
theorem d_Wl_isBetter_9 : decode b_Wl_isBetter 9 = .ok (.ifCond .gt 26, 3) := by decide +kernel
theorem d_Wl_isBetter_12 : decode b_Wl_isBetter 12 = .ok (.lload_n 1, 1) := by decide +kernel
theorem d_Wl_isBetter_13 : decode b_Wl_isBetter 13 = .ok (.aload_n 0, 1) := by decide +kernel
theorem d_Wl_isBetter_14 : decode b_Wl_isBetter 14 = .ok (.getfield 9, 3) := by decide +kernel
theorem d_Wl_isBetter_17 : decode b_Wl_isBetter 17 = .ok (.iload 4, 2) := by decide +kernel
theorem d_Wl_isBetter_19 : decode b_Wl_isBetter 19 = .ok (.laload, 1) := by decide +kernel
theorem d_Wl_isBetter_20 : decode b_Wl_isBetter 20 = .ok (.lcmp, 1) := by decide +kernel
theorem d_Wl_isBetter_21 : decode b_Wl_isBetter 21 = .ok (.ifCond .ne 18, 3) := by decide +kernel
theorem d_Wl_isBetter_24 : decode b_Wl_isBetter 24 = .ok (.iload_n 3, 1) := by decide +kernel
theorem d_Wl_isBetter_25 : decode b_Wl_isBetter 25 = .ok (.aload_n 0, 1) := by decide +kernel
theorem d_Wl_isBetter_26 : decode b_Wl_isBetter 26 = .ok (.getfield 15, 3) := by decide +kernel
theorem d_Wl_isBetter_29 : decode b_Wl_isBetter 29 = .ok (.iload 4, 2) := by decide +kernel
theorem d_Wl_isBetter_31 : decode b_Wl_isBetter 31 = .ok (.iaload, 1) := by decide +kernel
theorem d_Wl_isBetter_32 : decode b_Wl_isBetter 32 = .ok (.if_icmp .ge 7, 3) := by decide +kernel
theorem d_Wl_isBetter_35 : decode b_Wl_isBetter 35 = .ok (.iconst 1, 1) := by decide +kernel
theorem d_Wl_isBetter_36 : decode b_Wl_isBetter 36 = .ok (.goto 4, 3) := by decide +kernel
theorem d_Wl_isBetter_39 : decode b_Wl_isBetter 39 = .ok (.iconst 0, 1) := by decide +kernel
theorem d_Wl_isBetter_40 : decode b_Wl_isBetter 40 = .ok (.ireturn, 1) := by decide +kernel
end
section
theorem d_Bw_init_0 : decode b_Bw_init 0 = .ok (.aload_n 0, 1) := by decide +kernel
theorem d_Bw_init_1 : decode b_Bw_init 1 = .ok (.invokespecial 3, 3) := by decide +kernel
theorem d_Bw_init_4 : decode b_Bw_init 4 = .ok (.aload_n 0, 1) := by decide +kernel
theorem d_Bw_init_5 : decode b_Bw_init 5 = .ok (.bipush 24, 2) := by decide +kernel
theorem d_Bw_init_7 : decode b_Bw_init 7 = .ok (.anewarray 9, 3) := by decide +kernel
theorem d_Bw_init_10 : decode b_Bw_init 10 = .ok (.putfield 11, 3) := by decide +kernel
theorem d_Bw_init_13 : decode b_Bw_init 13 = .ok (.aload_n 0, 1) := by decide +kernel
theorem d_Bw_init_14 : decode b_Bw_init 14 = .ok (.new 9, 3) := by decide +kernel
theorem d_Bw_init_17 : decode b_Bw_init 17 = .ok (.dup, 1) := by decide +kernel
theorem d_Bw_init_18 : decode b_Bw_init 18 = .ok (.invokespecial 17, 3) := by decide +kernel
theorem d_Bw_init_21 : decode b_Bw_init 21 = .ok (.putfield 18, 3) := by decide +kernel
theorem d_Bw_init_24 : decode b_Bw_init 24 = .ok (.aload_n 0, 1) := by decide +kernel
theorem d_Bw_init_25 : decode b_Bw_init 25 = .ok (.iconst 0, 1) := by decide +kernel
theorem d_Bw_init_26 : decode b_Bw_init 26 = .ok (.putfield 22, 3) := by decide +kernel
theorem d_Bw_init_29 : decode b_Bw_init 29 = .ok (.aload_n 0, 1) := by decide +kernel
theorem d_Bw_init_30 : decode b_Bw_init 30 = .ok (.aload_n 1, 1) := by decide +kernel
theorem d_Bw_init_31 : decode b_Bw_init 31 = .ok (.putfield 26, 3) := by decide +kernel
theorem d_Bw_init_34 : decode b_Bw_init 34 = .ok (.aload_n 0, 1) := by decide +kernel
theorem d_Bw_init_35 : decode b_Bw_init 35 = .ok (.aload_n 2, 1) := by decide +kernel
theorem d_Bw_init_36 : decode b_Bw_init 36 = .ok (.putfield 30, 3) := by decide +kernel
theorem d_Bw_init_39 : decode b_Bw_init 39 = .ok (.aload_n 0, 1) := by decide +kernel
theorem d_Bw_init_40 : decode b_Bw_init 40 = .ok (.aload_n 3, 1) := by decide +kernel
theorem d_Bw_init_41 : decode b_Bw_init 41 = .ok (.putfield 34, 3) := by decide +kernel
theorem d_Bw_init_44 : decode b_Bw_init 44 = .ok (.iconst 0, 1) := by decide +kernel
theorem d_Bw_init_45 : decode b_Bw_init 45 = .ok (.istore 4, 2) := by decide +kernel
theorem d_Bw_init_47 : decode b_Bw_init 47 = .ok (.iload 4, 2) := by decide +kernel
theorem d_Bw_init_49 : decode b_Bw_init 49 = .ok (.bipush 24, 2) := by decide +kernel
theorem d_Bw_init_51 : decode b_Bw_init 51 = .ok (.if_icmp .ge 23, 3) := by decide +kernel
theorem d_Bw_init_54 : decode b_Bw_init 54 = .ok (.aload_n 0, 1) := by decide +kernel
theorem d_Bw_init_55 : decode b_Bw_init 55 = .ok (.getfield 11, 3) := by decide +kernel
theorem d_Bw_init_58 : decode b_Bw_init 58 = .ok (.iload 4, 2) := by decide +kernel
theorem d_Bw_init_60 : decode b_Bw_init 60 = .ok (.new 9, 3) := by decide +kernel
theorem d_Bw_init_63 : decode b_Bw_init 63 = .ok (.dup, 1) := by decide +kernel
theorem d_Bw_init_64 : decode b_Bw_init 64 = .ok (.invokespecial 17, 3) := by decide +kernel
theorem d_Bw_init_67 : decode b_Bw_init 67 = .ok (.aastore, 1) := by decide +kernel
theorem d_Bw_init_68 : decode b_Bw_init 68 = .ok (.iinc 4 1, 3) := by decide +kernel
theorem d_Bw_init_71 : decode b_Bw_init 71 = .ok (.goto (-24), 3) := by decide +kernel
theorem d_Bw_init_74 : decode b_Bw_init 74 = .ok (.return_, 1) := by decide +kernel
theorem d_Bw_list_0 : decode b_Bw_list 0 = .ok (.aload_n 0, 1) := by decide +kernel
theorem d_Bw_list_1 : decode b_Bw_list 1 = .ok (.getfield 22, 3) := by decide +kernel
theorem d_Bw_list_4 : decode b_Bw_list 4 = .ok (.ifCond .ne 64, 3) := by decide +kernel
theorem d_Bw_list_7 : decode b_Bw_list 7 = .ok (.aload_n 0, 1) := by decide +kernel
theorem d_Bw_list_8 : decode b_Bw_list 8 = .ok (.iconst 1, 1) := by decide +kernel
theorem d_Bw_list_9 : decode b_Bw_list 9 = .ok (.putfield 22, 3) := by decide +kernel
theorem d_Bw_list_12 : decode b_Bw_list 12 = .ok (.aload_n 0, 1) := by decide +kernel
theorem d_Bw_list_13 : decode b_Bw_list 13 = .ok (.getfield 34, 3) := by decide +kernel
theorem d_Bw_list_16 : decode b_Bw_list 16 = .ok (.invokevirtual 38, 3) := by decide +kernel
theorem d_Bw_list_19 : decode b_Bw_list 19 = .ok (.aload_n 0, 1) := by decide +kernel
theorem d_Bw_list_20 : decode b_Bw_list 20 = .ok (.getfield 26, 3) := by decide +kernel
theorem d_Bw_list_23 : decode b_Bw_list 23 = .ok (.getfield 43, 3) := by decide +kernel
theorem d_Bw_list_26 : decode b_Bw_list 26 = .ok (.iconst 1, 1) := by decide +kernel
theorem d_Bw_list_27 : decode b_Bw_list 27 = .ok (.isub, 1) := by decide +kernel
theorem d_Bw_list_28 : decode b_Bw_list 28 = .ok (.istore_n 1, 1) := by decide +kernel
theorem d_Bw_list_29 : decode b_Bw_list 29 = .ok (.iload_n 1, 1) := by decide +kernel
theorem d_Bw_list_30 : decode b_Bw_list 30 = .ok (.ifCond .lt 34, 3) := by decide +kernel
theorem d_Bw_list_33 : decode b_Bw_list 33 = .ok (.iconst 0, 1) := by decide +kernel
theorem d_Bw_list_34 : decode b_Bw_list 34 = .ok (.istore_n 2, 1) := by decide +kernel
theorem d_Bw_list_35 : decode b_Bw_list 35 = .ok (.iload_n 2, 1) := by decide +kernel
theorem d_Bw_list_36 : decode b_Bw_list 36 = .ok (.aload_n 0, 1) := by decide +kernel
theorem d_Bw_list_37 : decode b_Bw_list 37 = .ok (.getfield 30, 3) := by decide +kernel
theorem d_Bw_list_40 : decode b_Bw_list 40 = .ok (.getfield 49, 3) := by decide +kernel
theorem d_Bw_list_43 : decode b_Bw_list 43 = .ok (.if_icmp .ge 15, 3) := by decide +kernel
theorem d_Bw_list_46 : decode b_Bw_list 46 = .ok (.aload_n 0, 1) := by decide +kernel
theorem d_Bw_list_47 : decode b_Bw_list 47 = .ok (.iload_n 1, 1) := by decide +kernel
theorem d_Bw_list_48 : decode b_Bw_list 48 = .ok (.iload_n 2, 1) := by decide +kernel
theorem d_Bw_list_49 : decode b_Bw_list 49 = .ok (.invokevirtual 54, 3) := by decide +kernel
theorem d_Bw_list_52 : decode b_Bw_list 52 = .ok (.iinc 2 1, 3) := by decide +kernel
theorem d_Bw_list_55 : decode b_Bw_list 55 = .ok (.goto (-20), 3) := by decide +kernel
theorem d_Bw_list_58 : decode b_Bw_list 58 = .ok (.iinc 1 (-1), 3) := by decide +kernel
theorem d_Bw_list_61 : decode b_Bw_list 61 = .ok (.goto (-32), 3) := by decide +kernel
theorem d_Bw_list_64 : decode b_Bw_list 64 = .ok (.aload_n 0, 1) := by decide +kernel
theorem d_Bw_list_65 : decode b_Bw_list 65 = .ok (.invokevirtual 58, 3) := by decide +kernel
theorem d_Bw_list_68 : decode b_Bw_list 68 = .ok (.aload_n 0, 1) := by decide +kernel
theorem d_Bw_list_69 : decode b_Bw_list 69 = .ok (.getfield 18, 3) := by decide +kernel
theorem d_Bw_list_72 : decode b_Bw_list 72 = .ok (.areturn, 1) := by decide +kernel
theorem d_Bw_listEnds_0 : decode b_Bw_listEnds 0 = .ok (.aload_n 0, 1) := by decide +kernel
theorem d_Bw_listEnds_1 : decode b_Bw_listEnds 1 = .ok (.iload_n 1, 1) := by decide +kernel
theorem d_Bw_listEnds_2 : decode b_Bw_listEnds 2 = .ok (.iload_n 2, 1) := by decide +kernel
theorem d_Bw_listEnds_3 : decode b_Bw_listEnds 3 = .ok (.invokevirtual 68, 3) := by decide +kernel
theorem d_Bw_listEnds_6 : decode b_Bw_listEnds 6 = .ok (.astore_n 3, 1) := by decide +kernel
theorem d_Bw_listEnds_7 : decode b_Bw_listEnds 7 = .ok (.aload_n 3, 1) := by decide +kernel
theorem d_Bw_listEnds_8 : decode b_Bw_listEnds 8 = .ok (.iconst 0, 1) := by decide +kernel
theorem d_Bw_listEnds_9 : decode b_Bw_listEnds 9 = .ok (.putfield 61, 3) := by decide +kernel
theorem d_Bw_listEnds_12 : decode b_Bw_listEnds 12 = .ok (.iconst 2, 1) := by decide +kernel
theorem d_Bw_listEnds_13 : decode b_Bw_listEnds 13 = .ok (.iload_n 2, 1) := by decide +kernel
theorem d_Bw_listEnds_14 : decode b_Bw_listEnds 14 = .ok (.imul, 1) := by decide +kernel
theorem d_Bw_listEnds_15 : decode b_Bw_listEnds 15 = .ok (.istore 4, 2) := by decide +kernel
theorem d_Bw_listEnds_17 : decode b_Bw_listEnds 17 = .ok (.iconst 1, 1) := by decide +kernel
theorem d_Bw_listEnds_18 : decode b_Bw_listEnds 18 = .ok (.istore 5, 2) := by decide +kernel
theorem d_Bw_listEnds_20 : decode b_Bw_listEnds 20 = .ok (.iload 5, 2) := by decide +kernel
theorem d_Bw_listEnds_22 : decode b_Bw_listEnds 22 = .ok (.iconst 3, 1) := by decide +kernel
theorem d_Bw_listEnds_23 : decode b_Bw_listEnds 23 = .ok (.if_icmp .gt 101, 3) := by decide +kernel
theorem d_Bw_listEnds_26 : decode b_Bw_listEnds 26 = .ok (.iload_n 1, 1) := by decide +kernel
theorem d_Bw_listEnds_27 : decode b_Bw_listEnds 27 = .ok (.iload 5, 2) := by decide +kernel
theorem d_Bw_listEnds_29 : decode b_Bw_listEnds 29 = .ok (.iadd, 1) := by decide +kernel
theorem d_Bw_listEnds_30 : decode b_Bw_listEnds 30 = .ok (.aload_n 0, 1) := by decide +kernel
theorem d_Bw_listEnds_31 : decode b_Bw_listEnds 31 = .ok (.getfield 26, 3) := by decide +kernel
theorem d_Bw_listEnds_34 : decode b_Bw_listEnds 34 = .ok (.getfield 43, 3) := by decide +kernel
theorem d_Bw_listEnds_37 : decode b_Bw_listEnds 37 = .ok (.if_icmp .gt 87, 3) := by decide +kernel
theorem d_Bw_listEnds_40 : decode b_Bw_listEnds 40 = .ok (.aload_n 0, 1) := by decide +kernel
theorem d_Bw_listEnds_41 : decode b_Bw_listEnds 41 = .ok (.getfield 34, 3) := by decide +kernel
theorem d_Bw_listEnds_44 : decode b_Bw_listEnds 44 = .ok (.iload_n 1, 1) := by decide +kernel
theorem d_Bw_listEnds_45 : decode b_Bw_listEnds 45 = .ok (.iload 5, 2) := by decide +kernel
theorem d_Bw_listEnds_47 : decode b_Bw_listEnds 47 = .ok (.iload_n 2, 1) := by decide +kernel
theorem d_Bw_listEnds_48 : decode b_Bw_listEnds 48 = .ok (.invokevirtual 76, 3) := by decide +kernel
theorem d_Bw_listEnds_51 : decode b_Bw_listEnds 51 = .ok (.lstore 6, 2) := by decide +kernel
theorem d_Bw_listEnds_53 : decode b_Bw_listEnds 53 = .ok (.iload_n 1, 1) := by decide +kernel
theorem d_Bw_listEnds_54 : decode b_Bw_listEnds 54 = .ok (.iload 5, 2) := by decide +kernel
theorem d_Bw_listEnds_56 : decode b_Bw_listEnds 56 = .ok (.iadd, 1) := by decide +kernel
theorem d_Bw_listEnds_57 : decode b_Bw_listEnds 57 = .ok (.aload_n 0, 1) := by decide +kernel
theorem d_Bw_listEnds_58 : decode b_Bw_listEnds 58 = .ok (.getfield 26, 3) := by decide +kernel
theorem d_Bw_listEnds_61 : decode b_Bw_listEnds 61 = .ok (.getfield 43, 3) := by decide +kernel
theorem d_Bw_listEnds_64 : decode b_Bw_listEnds 64 = .ok (.if_icmp .ne 28, 3) := by decide +kernel
theorem d_Bw_listEnds_67 : decode b_Bw_listEnds 67 = .ok (.aload_n 3, 1) := by decide +kernel
theorem d_Bw_listEnds_68 : decode b_Bw_listEnds 68 = .ok (.lload 6, 2) := by decide +kernel
theorem d_Bw_listEnds_70 : decode b_Bw_listEnds 70 = .ok (.aload_n 0, 1) := by decide +kernel
theorem d_Bw_listEnds_71 : decode b_Bw_listEnds 71 = .ok (.getfield 30, 3) := by decide +kernel
theorem d_Bw_listEnds_74 : decode b_Bw_listEnds 74 = .ok (.getfield 64, 3) := by decide +kernel
theorem d_Bw_listEnds_77 : decode b_Bw_listEnds 77 = .ok (.iload_n 2, 1) := by decide +kernel
theorem d_Bw_listEnds_78 : decode b_Bw_listEnds 78 = .ok (.aaload, 1) := by decide +kernel
theorem d_Bw_listEnds_79 : decode b_Bw_listEnds 79 = .ok (.iconst 1, 1) := by decide +kernel
theorem d_Bw_listEnds_80 : decode b_Bw_listEnds 80 = .ok (.iaload, 1) := by decide +kernel
theorem d_Bw_listEnds_81 : decode b_Bw_listEnds 81 = .ok (.i2l, 1) := by decide +kernel
theorem d_Bw_listEnds_82 : decode b_Bw_listEnds 82 = .ok (.lmul, 1) := by decide +kernel
theorem d_Bw_listEnds_83 : decode b_Bw_listEnds 83 = .ok (.iload 4, 2) := by decide +kernel
theorem d_Bw_listEnds_85 : decode b_Bw_listEnds 85 = .ok (.invokevirtual 80, 3) := by decide +kernel
theorem d_Bw_listEnds_88 : decode b_Bw_listEnds 88 = .ok (.pop, 1) := by decide +kernel
theorem d_Bw_listEnds_89 : decode b_Bw_listEnds 89 = .ok (.goto 17, 3) := by decide +kernel
theorem d_Bw_listEnds_92 : decode b_Bw_listEnds 92 = .ok (.aload_n 0, 1) := by decide +kernel
theorem d_Bw_listEnds_93 : decode b_Bw_listEnds 93 = .ok (.aload_n 3, 1) := by decide +kernel
theorem d_Bw_listEnds_94 : decode b_Bw_listEnds 94 = .ok (.lload 6, 2) := by decide +kernel
theorem d_Bw_listEnds_96 : decode b_Bw_listEnds 96 = .ok (.iload 4, 2) := by decide +kernel
theorem d_Bw_listEnds_98 : decode b_Bw_listEnds 98 = .ok (.iload_n 1, 1) := by decide +kernel
theorem d_Bw_listEnds_99 : decode b_Bw_listEnds 99 = .ok (.iload 5, 2) := by decide +kernel
theorem d_Bw_listEnds_101 : decode b_Bw_listEnds 101 = .ok (.iadd, 1) := by decide +kernel
theorem d_Bw_listEnds_102 : decode b_Bw_listEnds 102 = .ok (.iload_n 2, 1) := by decide +kernel
theorem d_Bw_listEnds_103 : decode b_Bw_listEnds 103 = .ok (.invokevirtual 84, 3) := by decide +kernel
theorem d_Bw_listEnds_106 : decode b_Bw_listEnds 106 = .ok (.iload 4, 2) := by decide +kernel
theorem d_Bw_listEnds_108 : decode b_Bw_listEnds 108 = .ok (.iconst 3, 1) := by decide +kernel
theorem d_Bw_listEnds_109 : decode b_Bw_listEnds 109 = .ok (.ishl, 1) := by decide +kernel
theorem d_Bw_listEnds_110 : decode b_Bw_listEnds 110 = .ok (.iconst 2, 1) := by decide +kernel
theorem d_Bw_listEnds_111 : decode b_Bw_listEnds 111 = .ok (.iload_n 2, 1) := by decide +kernel
theorem d_Bw_listEnds_112 : decode b_Bw_listEnds 112 = .ok (.imul, 1) := by decide +kernel
theorem d_Bw_listEnds_113 : decode b_Bw_listEnds 113 = .ok (.iconst 1, 1) := by decide +kernel
theorem d_Bw_listEnds_114 : decode b_Bw_listEnds 114 = .ok (.iadd, 1) := by decide +kernel
theorem d_Bw_listEnds_115 : decode b_Bw_listEnds 115 = .ok (.ior, 1) := by decide +kernel
theorem d_Bw_listEnds_116 : decode b_Bw_listEnds 116 = .ok (.istore 4, 2) := by decide +kernel
theorem d_Bw_listEnds_118 : decode b_Bw_listEnds 118 = .ok (.iinc 5 1, 3) := by decide +kernel
theorem d_Bw_listEnds_121 : decode b_Bw_listEnds 121 = .ok (.goto (-101), 3) := by decide +kernel
theorem d_Bw_listEnds_124 : decode b_Bw_listEnds 124 = .ok (.return_, 1) := by decide +kernel
theorem d_Bw_endsFrom_0 : decode b_Bw_endsFrom 0 = .ok (.aload_n 0, 1) := by decide +kernel
theorem d_Bw_endsFrom_1 : decode b_Bw_endsFrom 1 = .ok (.getfield 11, 3) := by decide +kernel
theorem d_Bw_endsFrom_4 : decode b_Bw_endsFrom 4 = .ok (.iload_n 1, 1) := by decide +kernel
theorem d_Bw_endsFrom_5 : decode b_Bw_endsFrom 5 = .ok (.iconst 4, 1) := by decide +kernel
theorem d_Bw_endsFrom_6 : decode b_Bw_endsFrom 6 = .ok (.imul, 1) := by decide +kernel
theorem d_Bw_endsFrom_7 : decode b_Bw_endsFrom 7 = .ok (.iload_n 2, 1) := by decide +kernel
theorem d_Bw_endsFrom_8 : decode b_Bw_endsFrom 8 = .ok (.iadd, 1) := by decide +kernel
theorem d_Bw_endsFrom_9 : decode b_Bw_endsFrom 9 = .ok (.aaload, 1) := by decide +kernel
theorem d_Bw_endsFrom_10 : decode b_Bw_endsFrom 10 = .ok (.areturn, 1) := by decide +kernel
theorem d_Bw_offerMoves_0 : decode b_Bw_offerMoves 0 = .ok (.iload 4, 2) := by decide +kernel
theorem d_Bw_offerMoves_2 : decode b_Bw_offerMoves 2 = .ok (.iconst 3, 1) := by decide +kernel
theorem d_Bw_offerMoves_3 : decode b_Bw_offerMoves 3 = .ok (.aload_n 0, 1) := by decide +kernel
theorem d_Bw_offerMoves_4 : decode b_Bw_offerMoves 4 = .ok (.getfield 26, 3) := by decide +kernel
theorem d_Bw_offerMoves_7 : decode b_Bw_offerMoves 7 = .ok (.getfield 43, 3) := by decide +kernel
theorem d_Bw_offerMoves_10 : decode b_Bw_offerMoves 10 = .ok (.iload 5, 2) := by decide +kernel
theorem d_Bw_offerMoves_12 : decode b_Bw_offerMoves 12 = .ok (.isub, 1) := by decide +kernel
theorem d_Bw_offerMoves_13 : decode b_Bw_offerMoves 13 = .ok (.imul, 1) := by decide +kernel
theorem d_Bw_offerMoves_14 : decode b_Bw_offerMoves 14 = .ok (.ishl, 1) := by decide +kernel
theorem d_Bw_offerMoves_15 : decode b_Bw_offerMoves 15 = .ok (.istore 7, 2) := by decide +kernel
theorem d_Bw_offerMoves_17 : decode b_Bw_offerMoves 17 = .ok (.iconst 0, 1) := by decide +kernel
theorem d_Bw_offerMoves_18 : decode b_Bw_offerMoves 18 = .ok (.istore 8, 2) := by decide +kernel
theorem d_Bw_offerMoves_20 : decode b_Bw_offerMoves 20 = .ok (.iload 8, 2) := by decide +kernel
theorem d_Bw_offerMoves_22 : decode b_Bw_offerMoves 22 = .ok (.aload_n 0, 1) := by decide +kernel
theorem d_Bw_offerMoves_23 : decode b_Bw_offerMoves 23 = .ok (.getfield 30, 3) := by decide +kernel
theorem d_Bw_offerMoves_26 : decode b_Bw_offerMoves 26 = .ok (.getfield 49, 3) := by decide +kernel
theorem d_Bw_offerMoves_29 : decode b_Bw_offerMoves 29 = .ok (.if_icmp .ge 39, 3) := by decide +kernel
theorem d_Bw_offerMoves_32 : decode b_Bw_offerMoves 32 = .ok (.aload_n 1, 1) := by decide +kernel
theorem d_Bw_offerMoves_33 : decode b_Bw_offerMoves 33 = .ok (.lload_n 2, 1) := by decide +kernel
theorem d_Bw_offerMoves_34 : decode b_Bw_offerMoves 34 = .ok (.aload_n 0, 1) := by decide +kernel
theorem d_Bw_offerMoves_35 : decode b_Bw_offerMoves 35 = .ok (.getfield 30, 3) := by decide +kernel
theorem d_Bw_offerMoves_38 : decode b_Bw_offerMoves 38 = .ok (.getfield 88, 3) := by decide +kernel
theorem d_Bw_offerMoves_41 : decode b_Bw_offerMoves 41 = .ok (.iload 6, 2) := by decide +kernel
theorem d_Bw_offerMoves_43 : decode b_Bw_offerMoves 43 = .ok (.aaload, 1) := by decide +kernel
theorem d_Bw_offerMoves_44 : decode b_Bw_offerMoves 44 = .ok (.iload 8, 2) := by decide +kernel
theorem d_Bw_offerMoves_46 : decode b_Bw_offerMoves 46 = .ok (.iaload, 1) := by decide +kernel
theorem d_Bw_offerMoves_47 : decode b_Bw_offerMoves 47 = .ok (.i2l, 1) := by decide +kernel
theorem d_Bw_offerMoves_48 : decode b_Bw_offerMoves 48 = .ok (.lmul, 1) := by decide +kernel
theorem d_Bw_offerMoves_49 : decode b_Bw_offerMoves 49 = .ok (.iload 7, 2) := by decide +kernel
theorem d_Bw_offerMoves_51 : decode b_Bw_offerMoves 51 = .ok (.aload_n 0, 1) := by decide +kernel
theorem d_Bw_offerMoves_52 : decode b_Bw_offerMoves 52 = .ok (.iload 5, 2) := by decide +kernel
theorem d_Bw_offerMoves_54 : decode b_Bw_offerMoves 54 = .ok (.iload 8, 2) := by decide +kernel
theorem d_Bw_offerMoves_56 : decode b_Bw_offerMoves 56 = .ok (.invokevirtual 68, 3) := by decide +kernel
theorem d_Bw_offerMoves_59 : decode b_Bw_offerMoves 59 = .ok (.invokestatic 72, 3) := by decide +kernel
theorem d_Bw_offerMoves_62 : decode b_Bw_offerMoves 62 = .ok (.iinc 8 1, 3) := by decide +kernel
theorem d_Bw_offerMoves_65 : decode b_Bw_offerMoves 65 = .ok (.goto (-45), 3) := by decide +kernel
theorem d_Bw_offerMoves_68 : decode b_Bw_offerMoves 68 = .ok (.return_, 1) := by decide +kernel
theorem d_Bw_offerAll_0 : decode b_Bw_offerAll 0 = .ok (.iconst 0, 1) := by decide +kernel
theorem d_Bw_offerAll_1 : decode b_Bw_offerAll 1 = .ok (.istore 5, 2) := by decide +kernel
theorem d_Bw_offerAll_3 : decode b_Bw_offerAll 3 = .ok (.iload 5, 2) := by decide +kernel
theorem d_Bw_offerAll_5 : decode b_Bw_offerAll 5 = .ok (.aload 4, 2) := by decide +kernel
theorem d_Bw_offerAll_7 : decode b_Bw_offerAll 7 = .ok (.getfield 61, 3) := by decide +kernel
theorem d_Bw_offerAll_10 : decode b_Bw_offerAll 10 = .ok (.if_icmp .ge 37, 3) := by decide +kernel
theorem d_Bw_offerAll_13 : decode b_Bw_offerAll 13 = .ok (.aload_n 0, 1) := by decide +kernel
theorem d_Bw_offerAll_14 : decode b_Bw_offerAll 14 = .ok (.lload_n 1, 1) := by decide +kernel
theorem d_Bw_offerAll_15 : decode b_Bw_offerAll 15 = .ok (.aload 4, 2) := by decide +kernel
theorem d_Bw_offerAll_17 : decode b_Bw_offerAll 17 = .ok (.getfield 91, 3) := by decide +kernel
theorem d_Bw_offerAll_20 : decode b_Bw_offerAll 20 = .ok (.iload 5, 2) := by decide +kernel
theorem d_Bw_offerAll_22 : decode b_Bw_offerAll 22 = .ok (.laload, 1) := by decide +kernel
theorem d_Bw_offerAll_23 : decode b_Bw_offerAll 23 = .ok (.lmul, 1) := by decide +kernel
theorem d_Bw_offerAll_24 : decode b_Bw_offerAll 24 = .ok (.iload_n 3, 1) := by decide +kernel
theorem d_Bw_offerAll_25 : decode b_Bw_offerAll 25 = .ok (.aload 4, 2) := by decide +kernel
theorem d_Bw_offerAll_27 : decode b_Bw_offerAll 27 = .ok (.getfield 94, 3) := by decide +kernel
theorem d_Bw_offerAll_30 : decode b_Bw_offerAll 30 = .ok (.iload 5, 2) := by decide +kernel
theorem d_Bw_offerAll_32 : decode b_Bw_offerAll 32 = .ok (.iaload, 1) := by decide +kernel
theorem d_Bw_offerAll_33 : decode b_Bw_offerAll 33 = .ok (.ior, 1) := by decide +kernel
theorem d_Bw_offerAll_34 : decode b_Bw_offerAll 34 = .ok (.invokevirtual 80, 3) := by decide +kernel
theorem d_Bw_offerAll_37 : decode b_Bw_offerAll 37 = .ok (.ifCond .ne 4, 3) := by decide +kernel
theorem d_Bw_offerAll_40 : decode b_Bw_offerAll 40 = .ok (.return_, 1) := by decide +kernel
theorem d_Bw_offerAll_41 : decode b_Bw_offerAll 41 = .ok (.iinc 5 1, 3) := by decide +kernel
theorem d_Bw_offerAll_44 : decode b_Bw_offerAll 44 = .ok (.goto (-41), 3) := by decide +kernel
theorem d_Bw_offerAll_47 : decode b_Bw_offerAll 47 = .ok (.return_, 1) := by decide +kernel
theorem d_Bw_listWhole_0 : decode b_Bw_listWhole 0 = .ok (.aload_n 0, 1) := by decide +kernel
theorem d_Bw_listWhole_1 : decode b_Bw_listWhole 1 = .ok (.getfield 18, 3) := by decide +kernel
theorem d_Bw_listWhole_4 : decode b_Bw_listWhole 4 = .ok (.iconst 0, 1) := by decide +kernel
theorem d_Bw_listWhole_5 : decode b_Bw_listWhole 5 = .ok (.putfield 61, 3) := by decide +kernel
theorem d_Bw_listWhole_8 : decode b_Bw_listWhole 8 = .ok (.aload_n 0, 1) := by decide +kernel
theorem d_Bw_listWhole_9 : decode b_Bw_listWhole 9 = .ok (.getfield 26, 3) := by decide +kernel
theorem d_Bw_listWhole_12 : decode b_Bw_listWhole 12 = .ok (.getfield 43, 3) := by decide +kernel
theorem d_Bw_listWhole_15 : decode b_Bw_listWhole 15 = .ok (.ifCond .le 48, 3) := by decide +kernel
theorem d_Bw_listWhole_18 : decode b_Bw_listWhole 18 = .ok (.iconst 0, 1) := by decide +kernel
theorem d_Bw_listWhole_19 : decode b_Bw_listWhole 19 = .ok (.istore_n 1, 1) := by decide +kernel
theorem d_Bw_listWhole_20 : decode b_Bw_listWhole 20 = .ok (.iload_n 1, 1) := by decide +kernel
theorem d_Bw_listWhole_21 : decode b_Bw_listWhole 21 = .ok (.aload_n 0, 1) := by decide +kernel
theorem d_Bw_listWhole_22 : decode b_Bw_listWhole 22 = .ok (.getfield 30, 3) := by decide +kernel
theorem d_Bw_listWhole_25 : decode b_Bw_listWhole 25 = .ok (.getfield 49, 3) := by decide +kernel
theorem d_Bw_listWhole_28 : decode b_Bw_listWhole 28 = .ok (.if_icmp .ge 35, 3) := by decide +kernel
theorem d_Bw_listWhole_31 : decode b_Bw_listWhole 31 = .ok (.aload_n 0, 1) := by decide +kernel
theorem d_Bw_listWhole_32 : decode b_Bw_listWhole 32 = .ok (.getfield 18, 3) := by decide +kernel
theorem d_Bw_listWhole_35 : decode b_Bw_listWhole 35 = .ok (.aload_n 0, 1) := by decide +kernel
theorem d_Bw_listWhole_36 : decode b_Bw_listWhole 36 = .ok (.getfield 30, 3) := by decide +kernel
theorem d_Bw_listWhole_39 : decode b_Bw_listWhole 39 = .ok (.getfield 64, 3) := by decide +kernel
theorem d_Bw_listWhole_42 : decode b_Bw_listWhole 42 = .ok (.iload_n 1, 1) := by decide +kernel
theorem d_Bw_listWhole_43 : decode b_Bw_listWhole 43 = .ok (.aaload, 1) := by decide +kernel
theorem d_Bw_listWhole_44 : decode b_Bw_listWhole 44 = .ok (.iconst 0, 1) := by decide +kernel
theorem d_Bw_listWhole_45 : decode b_Bw_listWhole 45 = .ok (.iaload, 1) := by decide +kernel
theorem d_Bw_listWhole_46 : decode b_Bw_listWhole 46 = .ok (.i2l, 1) := by decide +kernel
theorem d_Bw_listWhole_47 : decode b_Bw_listWhole 47 = .ok (.iconst 0, 1) := by decide +kernel
theorem d_Bw_listWhole_48 : decode b_Bw_listWhole 48 = .ok (.aload_n 0, 1) := by decide +kernel
theorem d_Bw_listWhole_49 : decode b_Bw_listWhole 49 = .ok (.iconst 0, 1) := by decide +kernel
theorem d_Bw_listWhole_50 : decode b_Bw_listWhole 50 = .ok (.iload_n 1, 1) := by decide +kernel
theorem d_Bw_listWhole_51 : decode b_Bw_listWhole 51 = .ok (.invokevirtual 68, 3) := by decide +kernel
theorem d_Bw_listWhole_54 : decode b_Bw_listWhole 54 = .ok (.invokestatic 72, 3) := by decide +kernel
theorem d_Bw_listWhole_57 : decode b_Bw_listWhole 57 = .ok (.iinc 1 1, 3) := by decide +kernel
theorem d_Bw_listWhole_60 : decode b_Bw_listWhole 60 = .ok (.goto (-40), 3) := by decide +kernel
theorem d_Bw_listWhole_63 : decode b_Bw_listWhole 63 = .ok (.return_, 1) := by decide +kernel
end
section
theorem d_Dr_init_0 : decode b_Dr_init 0 = .ok (.aload_n 0, 1) := by decide +kernel
theorem d_Dr_init_1 : decode b_Dr_init 1 = .ok (.invokespecial 3, 3) := by decide +kernel
theorem d_Dr_init_4 : decode b_Dr_init 4 = .ok (.aload_n 0, 1) := by decide +kernel
theorem d_Dr_init_5 : decode b_Dr_init 5 = .ok (.lconst 1, 1) := by decide +kernel
theorem d_Dr_init_6 : decode b_Dr_init 6 = .ok (.putfield 9, 3) := by decide +kernel
theorem d_Dr_init_9 : decode b_Dr_init 9 = .ok (.aload_n 0, 1) := by decide +kernel
theorem d_Dr_init_10 : decode b_Dr_init 10 = .ok (.iconst 0, 1) := by decide +kernel
theorem d_Dr_init_11 : decode b_Dr_init 11 = .ok (.putfield 15, 3) := by decide +kernel
theorem d_Dr_init_14 : decode b_Dr_init 14 = .ok (.aload_n 0, 1) := by decide +kernel
theorem d_Dr_init_15 : decode b_Dr_init 15 = .ok (.iconst 0, 1) := by decide +kernel
theorem d_Dr_init_16 : decode b_Dr_init 16 = .ok (.putfield 19, 3) := by decide +kernel
theorem d_Dr_init_19 : decode b_Dr_init 19 = .ok (.aload_n 0, 1) := by decide +kernel
theorem d_Dr_init_20 : decode b_Dr_init 20 = .ok (.lconst 1, 1) := by decide +kernel
theorem d_Dr_init_21 : decode b_Dr_init 21 = .ok (.putfield 22, 3) := by decide +kernel
theorem d_Dr_init_24 : decode b_Dr_init 24 = .ok (.aload_n 0, 1) := by decide +kernel
theorem d_Dr_init_25 : decode b_Dr_init 25 = .ok (.iconst 0, 1) := by decide +kernel
theorem d_Dr_init_26 : decode b_Dr_init 26 = .ok (.putfield 25, 3) := by decide +kernel
theorem d_Dr_init_29 : decode b_Dr_init 29 = .ok (.aload_n 0, 1) := by decide +kernel
theorem d_Dr_init_30 : decode b_Dr_init 30 = .ok (.iconst 0, 1) := by decide +kernel
theorem d_Dr_init_31 : decode b_Dr_init 31 = .ok (.putfield 28, 3) := by decide +kernel
theorem d_Dr_init_34 : decode b_Dr_init 34 = .ok (.aload_n 0, 1) := by decide +kernel
theorem d_Dr_init_35 : decode b_Dr_init 35 = .ok (.aload_n 1, 1) := by decide +kernel
theorem d_Dr_init_36 : decode b_Dr_init 36 = .ok (.putfield 32, 3) := by decide +kernel
theorem d_Dr_init_39 : decode b_Dr_init 39 = .ok (.aload_n 0, 1) := by decide +kernel
theorem d_Dr_init_40 : decode b_Dr_init 40 = .ok (.aload_n 2, 1) := by decide +kernel
theorem d_Dr_init_41 : decode b_Dr_init 41 = .ok (.putfield 36, 3) := by decide +kernel
theorem d_Dr_init_44 : decode b_Dr_init 44 = .ok (.aload_n 0, 1) := by decide +kernel
theorem d_Dr_init_45 : decode b_Dr_init 45 = .ok (.aload_n 3, 1) := by decide +kernel
theorem d_Dr_init_46 : decode b_Dr_init 46 = .ok (.putfield 40, 3) := by decide +kernel
theorem d_Dr_init_49 : decode b_Dr_init 49 = .ok (.return_, 1) := by decide +kernel
theorem d_Dr_spread_0 : decode b_Dr_spread 0 = .ok (.iload_n 0, 1) := by decide +kernel
theorem d_Dr_spread_1 : decode b_Dr_spread 1 = .ok (.ldc 44, 2) := by decide +kernel
theorem d_Dr_spread_3 : decode b_Dr_spread 3 = .ok (.imul, 1) := by decide +kernel
theorem d_Dr_spread_4 : decode b_Dr_spread 4 = .ok (.ldc 45, 2) := by decide +kernel
theorem d_Dr_spread_6 : decode b_Dr_spread 6 = .ok (.iadd, 1) := by decide +kernel
theorem d_Dr_spread_7 : decode b_Dr_spread 7 = .ok (.istore_n 1, 1) := by decide +kernel
theorem d_Dr_spread_8 : decode b_Dr_spread 8 = .ok (.iload_n 1, 1) := by decide +kernel
theorem d_Dr_spread_9 : decode b_Dr_spread 9 = .ok (.ldc 44, 2) := by decide +kernel
theorem d_Dr_spread_11 : decode b_Dr_spread 11 = .ok (.imul, 1) := by decide +kernel
theorem d_Dr_spread_12 : decode b_Dr_spread 12 = .ok (.ldc 45, 2) := by decide +kernel
theorem d_Dr_spread_14 : decode b_Dr_spread 14 = .ok (.iadd, 1) := by decide +kernel
theorem d_Dr_spread_15 : decode b_Dr_spread 15 = .ok (.istore_n 2, 1) := by decide +kernel
theorem d_Dr_spread_16 : decode b_Dr_spread 16 = .ok (.ldc2_w 46, 3) := by decide +kernel
theorem d_Dr_spread_19 : decode b_Dr_spread 19 = .ok (.iload_n 1, 1) := by decide +kernel
theorem d_Dr_spread_20 : decode b_Dr_spread 20 = .ok (.iconst 1, 1) := by decide +kernel
theorem d_Dr_spread_21 : decode b_Dr_spread 21 = .ok (.iushr, 1) := by decide +kernel
theorem d_Dr_spread_22 : decode b_Dr_spread 22 = .ok (.i2l, 1) := by decide +kernel
theorem d_Dr_spread_23 : decode b_Dr_spread 23 = .ok (.lmul, 1) := by decide +kernel
theorem d_Dr_spread_24 : decode b_Dr_spread 24 = .ok (.iload_n 2, 1) := by decide +kernel
theorem d_Dr_spread_25 : decode b_Dr_spread 25 = .ok (.iconst 1, 1) := by decide +kernel
theorem d_Dr_spread_26 : decode b_Dr_spread 26 = .ok (.iushr, 1) := by decide +kernel
theorem d_Dr_spread_27 : decode b_Dr_spread 27 = .ok (.i2l, 1) := by decide +kernel
theorem d_Dr_spread_28 : decode b_Dr_spread 28 = .ok (.ladd, 1) := by decide +kernel
theorem d_Dr_spread_29 : decode b_Dr_spread 29 = .ok (.lreturn, 1) := by decide +kernel
theorem d_Dr_draw_0 : decode b_Dr_draw 0 = .ok (.aload_n 0, 1) := by decide +kernel
theorem d_Dr_draw_1 : decode b_Dr_draw 1 = .ok (.getfield 40, 3) := by decide +kernel
theorem d_Dr_draw_4 : decode b_Dr_draw 4 = .ok (.invokevirtual 48, 3) := by decide +kernel
theorem d_Dr_draw_7 : decode b_Dr_draw 7 = .ok (.aload_n 0, 1) := by decide +kernel
theorem d_Dr_draw_8 : decode b_Dr_draw 8 = .ok (.iconst 1, 1) := by decide +kernel
theorem d_Dr_draw_9 : decode b_Dr_draw 9 = .ok (.putfield 28, 3) := by decide +kernel
theorem d_Dr_draw_12 : decode b_Dr_draw 12 = .ok (.aload_n 0, 1) := by decide +kernel
theorem d_Dr_draw_13 : decode b_Dr_draw 13 = .ok (.iconst 0, 1) := by decide +kernel
theorem d_Dr_draw_14 : decode b_Dr_draw 14 = .ok (.putfield 25, 3) := by decide +kernel
theorem d_Dr_draw_17 : decode b_Dr_draw 17 = .ok (.aload_n 0, 1) := by decide +kernel
theorem d_Dr_draw_18 : decode b_Dr_draw 18 = .ok (.lconst 1, 1) := by decide +kernel
theorem d_Dr_draw_19 : decode b_Dr_draw 19 = .ok (.putfield 9, 3) := by decide +kernel
theorem d_Dr_draw_22 : decode b_Dr_draw 22 = .ok (.aload_n 0, 1) := by decide +kernel
theorem d_Dr_draw_23 : decode b_Dr_draw 23 = .ok (.iconst 0, 1) := by decide +kernel
theorem d_Dr_draw_24 : decode b_Dr_draw 24 = .ok (.putfield 15, 3) := by decide +kernel
theorem d_Dr_draw_27 : decode b_Dr_draw 27 = .ok (.aload_n 0, 1) := by decide +kernel
theorem d_Dr_draw_28 : decode b_Dr_draw 28 = .ok (.iconst 0, 1) := by decide +kernel
theorem d_Dr_draw_29 : decode b_Dr_draw 29 = .ok (.putfield 19, 3) := by decide +kernel
theorem d_Dr_draw_32 : decode b_Dr_draw 32 = .ok (.lload_n 1, 1) := by decide +kernel
theorem d_Dr_draw_33 : decode b_Dr_draw 33 = .ok (.lstore_n 3, 1) := by decide +kernel
theorem d_Dr_draw_34 : decode b_Dr_draw 34 = .ok (.iconst 0, 1) := by decide +kernel
theorem d_Dr_draw_35 : decode b_Dr_draw 35 = .ok (.istore 5, 2) := by decide +kernel
theorem d_Dr_draw_37 : decode b_Dr_draw 37 = .ok (.iload 5, 2) := by decide +kernel
theorem d_Dr_draw_39 : decode b_Dr_draw 39 = .ok (.aload_n 0, 1) := by decide +kernel
theorem d_Dr_draw_40 : decode b_Dr_draw 40 = .ok (.getfield 32, 3) := by decide +kernel
theorem d_Dr_draw_43 : decode b_Dr_draw 43 = .ok (.getfield 53, 3) := by decide +kernel
theorem d_Dr_draw_46 : decode b_Dr_draw 46 = .ok (.if_icmp .ge 27, 3) := by decide +kernel
theorem d_Dr_draw_49 : decode b_Dr_draw 49 = .ok (.aload_n 0, 1) := by decide +kernel
theorem d_Dr_draw_50 : decode b_Dr_draw 50 = .ok (.aload_n 0, 1) := by decide +kernel
theorem d_Dr_draw_51 : decode b_Dr_draw 51 = .ok (.iload 5, 2) := by decide +kernel
theorem d_Dr_draw_53 : decode b_Dr_draw 53 = .ok (.invokevirtual 58, 3) := by decide +kernel
theorem d_Dr_draw_56 : decode b_Dr_draw 56 = .ok (.putfield 22, 3) := by decide +kernel
theorem d_Dr_draw_59 : decode b_Dr_draw 59 = .ok (.aload_n 0, 1) := by decide +kernel
theorem d_Dr_draw_60 : decode b_Dr_draw 60 = .ok (.iload 5, 2) := by decide +kernel
theorem d_Dr_draw_62 : decode b_Dr_draw 62 = .ok (.lload_n 3, 1) := by decide +kernel
theorem d_Dr_draw_63 : decode b_Dr_draw 63 = .ok (.invokevirtual 62, 3) := by decide +kernel
theorem d_Dr_draw_66 : decode b_Dr_draw 66 = .ok (.lstore_n 3, 1) := by decide +kernel
theorem d_Dr_draw_67 : decode b_Dr_draw 67 = .ok (.iinc 5 1, 3) := by decide +kernel
theorem d_Dr_draw_70 : decode b_Dr_draw 70 = .ok (.goto (-33), 3) := by decide +kernel
theorem d_Dr_draw_73 : decode b_Dr_draw 73 = .ok (.aload_n 0, 1) := by decide +kernel
theorem d_Dr_draw_74 : decode b_Dr_draw 74 = .ok (.getfield 9, 3) := by decide +kernel
theorem d_Dr_draw_77 : decode b_Dr_draw 77 = .ok (.aload_n 0, 1) := by decide +kernel
theorem d_Dr_draw_78 : decode b_Dr_draw 78 = .ok (.aload_n 0, 1) := by decide +kernel
theorem d_Dr_draw_79 : decode b_Dr_draw 79 = .ok (.getfield 32, 3) := by decide +kernel
theorem d_Dr_draw_82 : decode b_Dr_draw 82 = .ok (.getfield 53, 3) := by decide +kernel
theorem d_Dr_draw_85 : decode b_Dr_draw 85 = .ok (.invokevirtual 58, 3) := by decide +kernel
theorem d_Dr_draw_88 : decode b_Dr_draw 88 = .ok (.lmul, 1) := by decide +kernel
theorem d_Dr_draw_89 : decode b_Dr_draw 89 = .ok (.aload_n 0, 1) := by decide +kernel
theorem d_Dr_draw_90 : decode b_Dr_draw 90 = .ok (.getfield 36, 3) := by decide +kernel
theorem d_Dr_draw_93 : decode b_Dr_draw 93 = .ok (.getfield 66, 3) := by decide +kernel
theorem d_Dr_draw_96 : decode b_Dr_draw 96 = .ok (.aload_n 0, 1) := by decide +kernel
theorem d_Dr_draw_97 : decode b_Dr_draw 97 = .ok (.getfield 15, 3) := by decide +kernel
theorem d_Dr_draw_100 : decode b_Dr_draw 100 = .ok (.aaload, 1) := by decide +kernel
theorem d_Dr_draw_101 : decode b_Dr_draw 101 = .ok (.iconst 1, 1) := by decide +kernel
theorem d_Dr_draw_102 : decode b_Dr_draw 102 = .ok (.iaload, 1) := by decide +kernel
theorem d_Dr_draw_103 : decode b_Dr_draw 103 = .ok (.i2l, 1) := by decide +kernel
theorem d_Dr_draw_104 : decode b_Dr_draw 104 = .ok (.lmul, 1) := by decide +kernel
theorem d_Dr_draw_105 : decode b_Dr_draw 105 = .ok (.lreturn, 1) := by decide +kernel
theorem d_Dr_openSegment_0 : decode b_Dr_openSegment 0 = .ok (.iload_n 1, 1) := by decide +kernel
theorem d_Dr_openSegment_1 : decode b_Dr_openSegment 1 = .ok (.aload_n 0, 1) := by decide +kernel
theorem d_Dr_openSegment_2 : decode b_Dr_openSegment 2 = .ok (.getfield 19, 3) := by decide +kernel
theorem d_Dr_openSegment_5 : decode b_Dr_openSegment 5 = .ok (.isub, 1) := by decide +kernel
theorem d_Dr_openSegment_6 : decode b_Dr_openSegment 6 = .ok (.istore_n 2, 1) := by decide +kernel
theorem d_Dr_openSegment_7 : decode b_Dr_openSegment 7 = .ok (.iload_n 2, 1) := by decide +kernel
theorem d_Dr_openSegment_8 : decode b_Dr_openSegment 8 = .ok (.iconst 1, 1) := by decide +kernel
theorem d_Dr_openSegment_9 : decode b_Dr_openSegment 9 = .ok (.if_icmp .lt 27, 3) := by decide +kernel
theorem d_Dr_openSegment_12 : decode b_Dr_openSegment 12 = .ok (.iload_n 2, 1) := by decide +kernel
theorem d_Dr_openSegment_13 : decode b_Dr_openSegment 13 = .ok (.iconst 3, 1) := by decide +kernel
theorem d_Dr_openSegment_14 : decode b_Dr_openSegment 14 = .ok (.if_icmp .gt 22, 3) := by decide +kernel
theorem d_Dr_openSegment_17 : decode b_Dr_openSegment 17 = .ok (.aload_n 0, 1) := by decide +kernel
theorem d_Dr_openSegment_18 : decode b_Dr_openSegment 18 = .ok (.getfield 40, 3) := by decide +kernel
theorem d_Dr_openSegment_21 : decode b_Dr_openSegment 21 = .ok (.aload_n 0, 1) := by decide +kernel
theorem d_Dr_openSegment_22 : decode b_Dr_openSegment 22 = .ok (.getfield 19, 3) := by decide +kernel
theorem d_Dr_openSegment_25 : decode b_Dr_openSegment 25 = .ok (.iload_n 2, 1) := by decide +kernel
theorem d_Dr_openSegment_26 : decode b_Dr_openSegment 26 = .ok (.aload_n 0, 1) := by decide +kernel
theorem d_Dr_openSegment_27 : decode b_Dr_openSegment 27 = .ok (.getfield 15, 3) := by decide +kernel
theorem d_Dr_openSegment_30 : decode b_Dr_openSegment 30 = .ok (.invokevirtual 97, 3) := by decide +kernel
theorem d_Dr_openSegment_33 : decode b_Dr_openSegment 33 = .ok (.goto 4, 3) := by decide +kernel
theorem d_Dr_openSegment_36 : decode b_Dr_openSegment 36 = .ok (.lconst 0, 1) := by decide +kernel
theorem d_Dr_openSegment_37 : decode b_Dr_openSegment 37 = .ok (.lreturn, 1) := by decide +kernel
theorem d_Dr_tellPlace_0 : decode b_Dr_tellPlace 0 = .ok (.lload_n 2, 1) := by decide +kernel
theorem d_Dr_tellPlace_1 : decode b_Dr_tellPlace 1 = .ok (.lstore 4, 2) := by decide +kernel
theorem d_Dr_tellPlace_3 : decode b_Dr_tellPlace 3 = .ok (.iconst 0, 1) := by decide +kernel
theorem d_Dr_tellPlace_4 : decode b_Dr_tellPlace 4 = .ok (.istore 6, 2) := by decide +kernel
theorem d_Dr_tellPlace_6 : decode b_Dr_tellPlace 6 = .ok (.iload 6, 2) := by decide +kernel
theorem d_Dr_tellPlace_8 : decode b_Dr_tellPlace 8 = .ok (.iconst 2, 1) := by decide +kernel
theorem d_Dr_tellPlace_9 : decode b_Dr_tellPlace 9 = .ok (.aload_n 0, 1) := by decide +kernel
theorem d_Dr_tellPlace_10 : decode b_Dr_tellPlace 10 = .ok (.getfield 36, 3) := by decide +kernel
theorem d_Dr_tellPlace_13 : decode b_Dr_tellPlace 13 = .ok (.getfield 72, 3) := by decide +kernel
theorem d_Dr_tellPlace_16 : decode b_Dr_tellPlace 16 = .ok (.imul, 1) := by decide +kernel
theorem d_Dr_tellPlace_17 : decode b_Dr_tellPlace 17 = .ok (.if_icmp .ge 43, 3) := by decide +kernel
theorem d_Dr_tellPlace_20 : decode b_Dr_tellPlace 20 = .ok (.aload_n 0, 1) := by decide +kernel
theorem d_Dr_tellPlace_21 : decode b_Dr_tellPlace 21 = .ok (.iload_n 1, 1) := by decide +kernel
theorem d_Dr_tellPlace_22 : decode b_Dr_tellPlace 22 = .ok (.iload 6, 2) := by decide +kernel
theorem d_Dr_tellPlace_24 : decode b_Dr_tellPlace 24 = .ok (.invokevirtual 75, 3) := by decide +kernel
theorem d_Dr_tellPlace_27 : decode b_Dr_tellPlace 27 = .ok (.lstore 7, 2) := by decide +kernel
theorem d_Dr_tellPlace_29 : decode b_Dr_tellPlace 29 = .ok (.lload 4, 2) := by decide +kernel
theorem d_Dr_tellPlace_31 : decode b_Dr_tellPlace 31 = .ok (.lload 7, 2) := by decide +kernel
theorem d_Dr_tellPlace_33 : decode b_Dr_tellPlace 33 = .ok (.lcmp, 1) := by decide +kernel
theorem d_Dr_tellPlace_34 : decode b_Dr_tellPlace 34 = .ok (.ifCond .ge 13, 3) := by decide +kernel
theorem d_Dr_tellPlace_37 : decode b_Dr_tellPlace 37 = .ok (.aload_n 0, 1) := by decide +kernel
theorem d_Dr_tellPlace_38 : decode b_Dr_tellPlace 38 = .ok (.iload_n 1, 1) := by decide +kernel
theorem d_Dr_tellPlace_39 : decode b_Dr_tellPlace 39 = .ok (.iload 6, 2) := by decide +kernel
theorem d_Dr_tellPlace_41 : decode b_Dr_tellPlace 41 = .ok (.invokevirtual 79, 3) := by decide +kernel
theorem d_Dr_tellPlace_44 : decode b_Dr_tellPlace 44 = .ok (.lload 4, 2) := by decide +kernel
theorem d_Dr_tellPlace_46 : decode b_Dr_tellPlace 46 = .ok (.lreturn, 1) := by decide +kernel
theorem d_Dr_tellPlace_47 : decode b_Dr_tellPlace 47 = .ok (.lload 4, 2) := by decide +kernel
theorem d_Dr_tellPlace_49 : decode b_Dr_tellPlace 49 = .ok (.lload 7, 2) := by decide +kernel
theorem d_Dr_tellPlace_51 : decode b_Dr_tellPlace 51 = .ok (.lsub, 1) := by decide +kernel
theorem d_Dr_tellPlace_52 : decode b_Dr_tellPlace 52 = .ok (.lstore 4, 2) := by decide +kernel
theorem d_Dr_tellPlace_54 : decode b_Dr_tellPlace 54 = .ok (.iinc 6 1, 3) := by decide +kernel
theorem d_Dr_tellPlace_57 : decode b_Dr_tellPlace 57 = .ok (.goto (-51), 3) := by decide +kernel
theorem d_Dr_tellPlace_60 : decode b_Dr_tellPlace 60 = .ok (.lload 4, 2) := by decide +kernel
theorem d_Dr_tellPlace_62 : decode b_Dr_tellPlace 62 = .ok (.lreturn, 1) := by decide +kernel
theorem d_Dr_sumTelling_0 : decode b_Dr_sumTelling 0 = .ok (.iload_n 2, 1) := by decide +kernel
theorem d_Dr_sumTelling_1 : decode b_Dr_sumTelling 1 = .ok (.iconst 2, 1) := by decide +kernel
theorem d_Dr_sumTelling_2 : decode b_Dr_sumTelling 2 = .ok (.idiv, 1) := by decide +kernel
theorem d_Dr_sumTelling_3 : decode b_Dr_sumTelling 3 = .ok (.istore_n 3, 1) := by decide +kernel
theorem d_Dr_sumTelling_4 : decode b_Dr_sumTelling 4 = .ok (.iload_n 2, 1) := by decide +kernel
theorem d_Dr_sumTelling_5 : decode b_Dr_sumTelling 5 = .ok (.iconst 2, 1) := by decide +kernel
theorem d_Dr_sumTelling_6 : decode b_Dr_sumTelling 6 = .ok (.irem, 1) := by decide +kernel
theorem d_Dr_sumTelling_7 : decode b_Dr_sumTelling 7 = .ok (.ifCond .ne 27, 3) := by decide +kernel
theorem d_Dr_sumTelling_10 : decode b_Dr_sumTelling 10 = .ok (.aload_n 0, 1) := by decide +kernel
theorem d_Dr_sumTelling_11 : decode b_Dr_sumTelling 11 = .ok (.getfield 9, 3) := by decide +kernel
theorem d_Dr_sumTelling_14 : decode b_Dr_sumTelling 14 = .ok (.aload_n 0, 1) := by decide +kernel
theorem d_Dr_sumTelling_15 : decode b_Dr_sumTelling 15 = .ok (.iload_n 1, 1) := by decide +kernel
theorem d_Dr_sumTelling_16 : decode b_Dr_sumTelling 16 = .ok (.iload_n 3, 1) := by decide +kernel
theorem d_Dr_sumTelling_17 : decode b_Dr_sumTelling 17 = .ok (.invokevirtual 83, 3) := by decide +kernel
theorem d_Dr_sumTelling_20 : decode b_Dr_sumTelling 20 = .ok (.lmul, 1) := by decide +kernel
theorem d_Dr_sumTelling_21 : decode b_Dr_sumTelling 21 = .ok (.aload_n 0, 1) := by decide +kernel
theorem d_Dr_sumTelling_22 : decode b_Dr_sumTelling 22 = .ok (.getfield 40, 3) := by decide +kernel
theorem d_Dr_sumTelling_25 : decode b_Dr_sumTelling 25 = .ok (.getfield 86, 3) := by decide +kernel
theorem d_Dr_sumTelling_28 : decode b_Dr_sumTelling 28 = .ok (.iload_n 1, 1) := by decide +kernel
theorem d_Dr_sumTelling_29 : decode b_Dr_sumTelling 29 = .ok (.aaload, 1) := by decide +kernel
theorem d_Dr_sumTelling_30 : decode b_Dr_sumTelling 30 = .ok (.iload_n 3, 1) := by decide +kernel
theorem d_Dr_sumTelling_31 : decode b_Dr_sumTelling 31 = .ok (.laload, 1) := by decide +kernel
theorem d_Dr_sumTelling_32 : decode b_Dr_sumTelling 32 = .ok (.lmul, 1) := by decide +kernel
theorem d_Dr_sumTelling_33 : decode b_Dr_sumTelling 33 = .ok (.lreturn, 1) := by decide +kernel
theorem d_Dr_sumTelling_34 : decode b_Dr_sumTelling 34 = .ok (.iload_n 1, 1) := by decide +kernel
theorem d_Dr_sumTelling_35 : decode b_Dr_sumTelling 35 = .ok (.ifCond .eq 11, 3) := by decide +kernel
theorem d_Dr_sumTelling_38 : decode b_Dr_sumTelling 38 = .ok (.iload_n 3, 1) := by decide +kernel
theorem d_Dr_sumTelling_39 : decode b_Dr_sumTelling 39 = .ok (.aload_n 0, 1) := by decide +kernel
theorem d_Dr_sumTelling_40 : decode b_Dr_sumTelling 40 = .ok (.getfield 15, 3) := by decide +kernel
theorem d_Dr_sumTelling_43 : decode b_Dr_sumTelling 43 = .ok (.if_icmp .eq 5, 3) := by decide +kernel
theorem d_Dr_sumTelling_46 : decode b_Dr_sumTelling 46 = .ok (.lconst 0, 1) := by decide +kernel
theorem d_Dr_sumTelling_47 : decode b_Dr_sumTelling 47 = .ok (.lreturn, 1) := by decide +kernel
theorem d_Dr_sumTelling_48 : decode b_Dr_sumTelling 48 = .ok (.aload_n 0, 1) := by decide +kernel
theorem d_Dr_sumTelling_49 : decode b_Dr_sumTelling 49 = .ok (.getfield 9, 3) := by decide +kernel
theorem d_Dr_sumTelling_52 : decode b_Dr_sumTelling 52 = .ok (.aload_n 0, 1) := by decide +kernel
theorem d_Dr_sumTelling_53 : decode b_Dr_sumTelling 53 = .ok (.getfield 40, 3) := by decide +kernel
theorem d_Dr_sumTelling_56 : decode b_Dr_sumTelling 56 = .ok (.iload_n 1, 1) := by decide +kernel
theorem d_Dr_sumTelling_57 : decode b_Dr_sumTelling 57 = .ok (.aload_n 0, 1) := by decide +kernel
theorem d_Dr_sumTelling_58 : decode b_Dr_sumTelling 58 = .ok (.getfield 19, 3) := by decide +kernel
theorem d_Dr_sumTelling_61 : decode b_Dr_sumTelling 61 = .ok (.isub, 1) := by decide +kernel
theorem d_Dr_sumTelling_62 : decode b_Dr_sumTelling 62 = .ok (.aload_n 0, 1) := by decide +kernel
theorem d_Dr_sumTelling_63 : decode b_Dr_sumTelling 63 = .ok (.getfield 19, 3) := by decide +kernel
theorem d_Dr_sumTelling_66 : decode b_Dr_sumTelling 66 = .ok (.iload_n 3, 1) := by decide +kernel
theorem d_Dr_sumTelling_67 : decode b_Dr_sumTelling 67 = .ok (.invokevirtual 90, 3) := by decide +kernel
theorem d_Dr_sumTelling_70 : decode b_Dr_sumTelling 70 = .ok (.lmul, 1) := by decide +kernel
theorem d_Dr_sumTelling_71 : decode b_Dr_sumTelling 71 = .ok (.lreturn, 1) := by decide +kernel
theorem d_Dr_closing_0 : decode b_Dr_closing 0 = .ok (.iload_n 1, 1) := by decide +kernel
theorem d_Dr_closing_1 : decode b_Dr_closing 1 = .ok (.ifCond .ne 16, 3) := by decide +kernel
theorem d_Dr_closing_4 : decode b_Dr_closing 4 = .ok (.aload_n 0, 1) := by decide +kernel
theorem d_Dr_closing_5 : decode b_Dr_closing 5 = .ok (.getfield 36, 3) := by decide +kernel
theorem d_Dr_closing_8 : decode b_Dr_closing 8 = .ok (.getfield 66, 3) := by decide +kernel
theorem d_Dr_closing_11 : decode b_Dr_closing 11 = .ok (.iload_n 2, 1) := by decide +kernel
theorem d_Dr_closing_12 : decode b_Dr_closing 12 = .ok (.aaload, 1) := by decide +kernel
theorem d_Dr_closing_13 : decode b_Dr_closing 13 = .ok (.iconst 0, 1) := by decide +kernel
theorem d_Dr_closing_14 : decode b_Dr_closing 14 = .ok (.iaload, 1) := by decide +kernel
theorem d_Dr_closing_15 : decode b_Dr_closing 15 = .ok (.i2l, 1) := by decide +kernel
theorem d_Dr_closing_16 : decode b_Dr_closing 16 = .ok (.lreturn, 1) := by decide +kernel
theorem d_Dr_closing_17 : decode b_Dr_closing 17 = .ok (.aload_n 0, 1) := by decide +kernel
theorem d_Dr_closing_18 : decode b_Dr_closing 18 = .ok (.getfield 22, 3) := by decide +kernel
theorem d_Dr_closing_21 : decode b_Dr_closing 21 = .ok (.aload_n 0, 1) := by decide +kernel
theorem d_Dr_closing_22 : decode b_Dr_closing 22 = .ok (.getfield 36, 3) := by decide +kernel
theorem d_Dr_closing_25 : decode b_Dr_closing 25 = .ok (.getfield 94, 3) := by decide +kernel
theorem d_Dr_closing_28 : decode b_Dr_closing 28 = .ok (.aload_n 0, 1) := by decide +kernel
theorem d_Dr_closing_29 : decode b_Dr_closing 29 = .ok (.getfield 15, 3) := by decide +kernel
theorem d_Dr_closing_32 : decode b_Dr_closing 32 = .ok (.aaload, 1) := by decide +kernel
theorem d_Dr_closing_33 : decode b_Dr_closing 33 = .ok (.iload_n 2, 1) := by decide +kernel
theorem d_Dr_closing_34 : decode b_Dr_closing 34 = .ok (.iaload, 1) := by decide +kernel
theorem d_Dr_closing_35 : decode b_Dr_closing 35 = .ok (.i2l, 1) := by decide +kernel
theorem d_Dr_closing_36 : decode b_Dr_closing 36 = .ok (.lmul, 1) := by decide +kernel
theorem d_Dr_closing_37 : decode b_Dr_closing 37 = .ok (.lreturn, 1) := by decide +kernel
theorem d_Dr_take_0 : decode b_Dr_take 0 = .ok (.aload_n 0, 1) := by decide +kernel
theorem d_Dr_take_1 : decode b_Dr_take 1 = .ok (.aload_n 0, 1) := by decide +kernel
theorem d_Dr_take_2 : decode b_Dr_take 2 = .ok (.getfield 25, 3) := by decide +kernel
theorem d_Dr_take_5 : decode b_Dr_take 5 = .ok (.iconst 3, 1) := by decide +kernel
theorem d_Dr_take_6 : decode b_Dr_take 6 = .ok (.ishl, 1) := by decide +kernel
theorem d_Dr_take_7 : decode b_Dr_take 7 = .ok (.iload_n 2, 1) := by decide +kernel
theorem d_Dr_take_8 : decode b_Dr_take 8 = .ok (.ior, 1) := by decide +kernel
theorem d_Dr_take_9 : decode b_Dr_take 9 = .ok (.putfield 25, 3) := by decide +kernel
theorem d_Dr_take_12 : decode b_Dr_take 12 = .ok (.iload_n 2, 1) := by decide +kernel
theorem d_Dr_take_13 : decode b_Dr_take 13 = .ok (.iconst 2, 1) := by decide +kernel
theorem d_Dr_take_14 : decode b_Dr_take 14 = .ok (.irem, 1) := by decide +kernel
theorem d_Dr_take_15 : decode b_Dr_take 15 = .ok (.ifCond .ne 32, 3) := by decide +kernel
theorem d_Dr_take_18 : decode b_Dr_take 18 = .ok (.aload_n 0, 1) := by decide +kernel
theorem d_Dr_take_19 : decode b_Dr_take 19 = .ok (.dup, 1) := by decide +kernel
theorem d_Dr_take_20 : decode b_Dr_take 20 = .ok (.getfield 9, 3) := by decide +kernel
theorem d_Dr_take_23 : decode b_Dr_take 23 = .ok (.aload_n 0, 1) := by decide +kernel
theorem d_Dr_take_24 : decode b_Dr_take 24 = .ok (.iload_n 1, 1) := by decide +kernel
theorem d_Dr_take_25 : decode b_Dr_take 25 = .ok (.iload_n 2, 1) := by decide +kernel
theorem d_Dr_take_26 : decode b_Dr_take 26 = .ok (.iconst 2, 1) := by decide +kernel
theorem d_Dr_take_27 : decode b_Dr_take 27 = .ok (.idiv, 1) := by decide +kernel
theorem d_Dr_take_28 : decode b_Dr_take 28 = .ok (.invokevirtual 83, 3) := by decide +kernel
theorem d_Dr_take_31 : decode b_Dr_take 31 = .ok (.lmul, 1) := by decide +kernel
theorem d_Dr_take_32 : decode b_Dr_take 32 = .ok (.putfield 9, 3) := by decide +kernel
theorem d_Dr_take_35 : decode b_Dr_take 35 = .ok (.aload_n 0, 1) := by decide +kernel
theorem d_Dr_take_36 : decode b_Dr_take 36 = .ok (.iload_n 2, 1) := by decide +kernel
theorem d_Dr_take_37 : decode b_Dr_take 37 = .ok (.iconst 2, 1) := by decide +kernel
theorem d_Dr_take_38 : decode b_Dr_take 38 = .ok (.idiv, 1) := by decide +kernel
theorem d_Dr_take_39 : decode b_Dr_take 39 = .ok (.putfield 15, 3) := by decide +kernel
theorem d_Dr_take_42 : decode b_Dr_take 42 = .ok (.aload_n 0, 1) := by decide +kernel
theorem d_Dr_take_43 : decode b_Dr_take 43 = .ok (.iload_n 1, 1) := by decide +kernel
theorem d_Dr_take_44 : decode b_Dr_take 44 = .ok (.putfield 19, 3) := by decide +kernel
theorem d_Dr_take_47 : decode b_Dr_take 47 = .ok (.return_, 1) := by decide +kernel
end
section
theorem d_Ki_init_0 : decode b_Ki_init 0 = .ok (.aload_n 0, 1) := by decide +kernel
theorem d_Ki_init_1 : decode b_Ki_init 1 = .ok (.invokespecial 3, 3) := by decide +kernel
theorem d_Ki_init_4 : decode b_Ki_init 4 = .ok (.aload_n 0, 1) := by decide +kernel
theorem d_Ki_init_5 : decode b_Ki_init 5 = .ok (.iconst 4, 1) := by decide +kernel
theorem d_Ki_init_6 : decode b_Ki_init 6 = .ok (.bipush 16, 2) := by decide +kernel
theorem d_Ki_init_8 : decode b_Ki_init 8 = .ok (.multianewarray 9 2, 4) := by decide +kernel
theorem d_Ki_init_12 : decode b_Ki_init 12 = .ok (.putfield 11, 3) := by decide +kernel
theorem d_Ki_init_15 : decode b_Ki_init 15 = .ok (.aload_n 0, 1) := by decide +kernel
theorem d_Ki_init_16 : decode b_Ki_init 16 = .ok (.iconst 4, 1) := by decide +kernel
theorem d_Ki_init_17 : decode b_Ki_init 17 = .ok (.iconst 4, 1) := by decide +kernel
theorem d_Ki_init_18 : decode b_Ki_init 18 = .ok (.multianewarray 9 2, 4) := by decide +kernel
theorem d_Ki_init_22 : decode b_Ki_init 22 = .ok (.putfield 16, 3) := by decide +kernel
theorem d_Ki_init_25 : decode b_Ki_init 25 = .ok (.aload_n 0, 1) := by decide +kernel
theorem d_Ki_init_26 : decode b_Ki_init 26 = .ok (.iconst 0, 1) := by decide +kernel
theorem d_Ki_init_27 : decode b_Ki_init 27 = .ok (.putfield 19, 3) := by decide +kernel
theorem d_Ki_init_30 : decode b_Ki_init 30 = .ok (.return_, 1) := by decide +kernel
theorem d_Ki_has_0 : decode b_Ki_has 0 = .ok (.iload_n 1, 1) := by decide +kernel
theorem d_Ki_has_1 : decode b_Ki_has 1 = .ok (.ifCond .lt 20, 3) := by decide +kernel
theorem d_Ki_has_4 : decode b_Ki_has 4 = .ok (.iload_n 1, 1) := by decide +kernel
theorem d_Ki_has_5 : decode b_Ki_has 5 = .ok (.aload_n 0, 1) := by decide +kernel
theorem d_Ki_has_6 : decode b_Ki_has 6 = .ok (.getfield 19, 3) := by decide +kernel
theorem d_Ki_has_9 : decode b_Ki_has 9 = .ok (.if_icmp .ge 12, 3) := by decide +kernel
theorem d_Ki_has_12 : decode b_Ki_has 12 = .ok (.iload_n 1, 1) := by decide +kernel
theorem d_Ki_has_13 : decode b_Ki_has 13 = .ok (.iconst 4, 1) := by decide +kernel
theorem d_Ki_has_14 : decode b_Ki_has 14 = .ok (.if_icmp .ge 7, 3) := by decide +kernel
theorem d_Ki_has_17 : decode b_Ki_has 17 = .ok (.iconst 1, 1) := by decide +kernel
theorem d_Ki_has_18 : decode b_Ki_has 18 = .ok (.goto 4, 3) := by decide +kernel
theorem d_Ki_has_21 : decode b_Ki_has 21 = .ok (.iconst 0, 1) := by decide +kernel
theorem d_Ki_has_22 : decode b_Ki_has 22 = .ok (.ireturn, 1) := by decide +kernel
theorem d_Ki_parts_0 : decode b_Ki_parts 0 = .ok (.iload_n 0, 1) := by decide +kernel
theorem d_Ki_parts_1 : decode b_Ki_parts 1 = .ok (.iconst 4, 1) := by decide +kernel
theorem d_Ki_parts_2 : decode b_Ki_parts 2 = .ok (.imul, 1) := by decide +kernel
theorem d_Ki_parts_3 : decode b_Ki_parts 3 = .ok (.iload_n 1, 1) := by decide +kernel
theorem d_Ki_parts_4 : decode b_Ki_parts 4 = .ok (.iadd, 1) := by decide +kernel
theorem d_Ki_parts_5 : decode b_Ki_parts 5 = .ok (.ireturn, 1) := by decide +kernel
theorem d_Ki_leafOf_0 : decode b_Ki_leafOf 0 = .ok (.iload_n 2, 1) := by decide +kernel
theorem d_Ki_leafOf_1 : decode b_Ki_leafOf 1 = .ok (.iconst (-1), 1) := by decide +kernel
theorem d_Ki_leafOf_2 : decode b_Ki_leafOf 2 = .ok (.if_icmp .eq 12, 3) := by decide +kernel
theorem d_Ki_leafOf_5 : decode b_Ki_leafOf 5 = .ok (.aload_n 0, 1) := by decide +kernel
theorem d_Ki_leafOf_6 : decode b_Ki_leafOf 6 = .ok (.getfield 16, 3) := by decide +kernel
theorem d_Ki_leafOf_9 : decode b_Ki_leafOf 9 = .ok (.iload_n 1, 1) := by decide +kernel
theorem d_Ki_leafOf_10 : decode b_Ki_leafOf 10 = .ok (.aaload, 1) := by decide +kernel
theorem d_Ki_leafOf_11 : decode b_Ki_leafOf 11 = .ok (.iload_n 2, 1) := by decide +kernel
theorem d_Ki_leafOf_12 : decode b_Ki_leafOf 12 = .ok (.iaload, 1) := by decide +kernel
theorem d_Ki_leafOf_13 : decode b_Ki_leafOf 13 = .ok (.ireturn, 1) := by decide +kernel
theorem d_Ki_leafOf_14 : decode b_Ki_leafOf 14 = .ok (.iconst 0, 1) := by decide +kernel
theorem d_Ki_leafOf_15 : decode b_Ki_leafOf 15 = .ok (.istore_n 3, 1) := by decide +kernel
theorem d_Ki_leafOf_16 : decode b_Ki_leafOf 16 = .ok (.iconst 0, 1) := by decide +kernel
theorem d_Ki_leafOf_17 : decode b_Ki_leafOf 17 = .ok (.istore 4, 2) := by decide +kernel
theorem d_Ki_leafOf_19 : decode b_Ki_leafOf 19 = .ok (.iload 4, 2) := by decide +kernel
theorem d_Ki_leafOf_21 : decode b_Ki_leafOf 21 = .ok (.iconst 4, 1) := by decide +kernel
theorem d_Ki_leafOf_22 : decode b_Ki_leafOf 22 = .ok (.if_icmp .ge 21, 3) := by decide +kernel
theorem d_Ki_leafOf_25 : decode b_Ki_leafOf 25 = .ok (.iload_n 3, 1) := by decide +kernel
theorem d_Ki_leafOf_26 : decode b_Ki_leafOf 26 = .ok (.aload_n 0, 1) := by decide +kernel
theorem d_Ki_leafOf_27 : decode b_Ki_leafOf 27 = .ok (.getfield 16, 3) := by decide +kernel
theorem d_Ki_leafOf_30 : decode b_Ki_leafOf 30 = .ok (.iload_n 1, 1) := by decide +kernel
theorem d_Ki_leafOf_31 : decode b_Ki_leafOf 31 = .ok (.aaload, 1) := by decide +kernel
theorem d_Ki_leafOf_32 : decode b_Ki_leafOf 32 = .ok (.iload 4, 2) := by decide +kernel
theorem d_Ki_leafOf_34 : decode b_Ki_leafOf 34 = .ok (.iaload, 1) := by decide +kernel
theorem d_Ki_leafOf_35 : decode b_Ki_leafOf 35 = .ok (.iadd, 1) := by decide +kernel
theorem d_Ki_leafOf_36 : decode b_Ki_leafOf 36 = .ok (.istore_n 3, 1) := by decide +kernel
theorem d_Ki_leafOf_37 : decode b_Ki_leafOf 37 = .ok (.iinc 4 1, 3) := by decide +kernel
theorem d_Ki_leafOf_40 : decode b_Ki_leafOf 40 = .ok (.goto (-21), 3) := by decide +kernel
theorem d_Ki_leafOf_43 : decode b_Ki_leafOf 43 = .ok (.iload_n 3, 1) := by decide +kernel
theorem d_Ki_leafOf_44 : decode b_Ki_leafOf 44 = .ok (.ireturn, 1) := by decide +kernel
end
section
theorem d_Tt_init_0 : decode b_Tt_init 0 = .ok (.aload_n 0, 1) := by decide +kernel
theorem d_Tt_init_1 : decode b_Tt_init 1 = .ok (.invokespecial 3, 3) := by decide +kernel
theorem d_Tt_init_4 : decode b_Tt_init 4 = .ok (.aload_n 0, 1) := by decide +kernel
theorem d_Tt_init_5 : decode b_Tt_init 5 = .ok (.iconst 4, 1) := by decide +kernel
theorem d_Tt_init_6 : decode b_Tt_init 6 = .ok (.bipush 36, 2) := by decide +kernel
theorem d_Tt_init_8 : decode b_Tt_init 8 = .ok (.multianewarray 11 2, 4) := by decide +kernel
theorem d_Tt_init_12 : decode b_Tt_init 12 = .ok (.putfield 13, 3) := by decide +kernel
theorem d_Tt_init_15 : decode b_Tt_init 15 = .ok (.aload_n 0, 1) := by decide +kernel
theorem d_Tt_init_16 : decode b_Tt_init 16 = .ok (.iconst 4, 1) := by decide +kernel
theorem d_Tt_init_17 : decode b_Tt_init 17 = .ok (.bipush 36, 2) := by decide +kernel
theorem d_Tt_init_19 : decode b_Tt_init 19 = .ok (.multianewarray 11 2, 4) := by decide +kernel
theorem d_Tt_init_23 : decode b_Tt_init 23 = .ok (.putfield 16, 3) := by decide +kernel
theorem d_Tt_init_26 : decode b_Tt_init 26 = .ok (.aload_n 0, 1) := by decide +kernel
theorem d_Tt_init_27 : decode b_Tt_init 27 = .ok (.iconst 4, 1) := by decide +kernel
theorem d_Tt_init_28 : decode b_Tt_init 28 = .ok (.bipush 36, 2) := by decide +kernel
theorem d_Tt_init_30 : decode b_Tt_init 30 = .ok (.multianewarray 11 2, 4) := by decide +kernel
theorem d_Tt_init_34 : decode b_Tt_init 34 = .ok (.putfield 19, 3) := by decide +kernel
theorem d_Tt_init_37 : decode b_Tt_init 37 = .ok (.aload_n 0, 1) := by decide +kernel
theorem d_Tt_init_38 : decode b_Tt_init 38 = .ok (.iconst 4, 1) := by decide +kernel
theorem d_Tt_init_39 : decode b_Tt_init 39 = .ok (.bipush 36, 2) := by decide +kernel
theorem d_Tt_init_41 : decode b_Tt_init 41 = .ok (.multianewarray 11 2, 4) := by decide +kernel
theorem d_Tt_init_45 : decode b_Tt_init 45 = .ok (.putfield 22, 3) := by decide +kernel
theorem d_Tt_init_48 : decode b_Tt_init 48 = .ok (.aload_n 0, 1) := by decide +kernel
theorem d_Tt_init_49 : decode b_Tt_init 49 = .ok (.bipush 7, 2) := by decide +kernel
theorem d_Tt_init_51 : decode b_Tt_init 51 = .ok (.newarray .int, 2) := by decide +kernel
theorem d_Tt_init_53 : decode b_Tt_init 53 = .ok (.putfield 25, 3) := by decide +kernel
theorem d_Tt_init_56 : decode b_Tt_init 56 = .ok (.aload_n 0, 1) := by decide +kernel
theorem d_Tt_init_57 : decode b_Tt_init 57 = .ok (.bipush 7, 2) := by decide +kernel
theorem d_Tt_init_59 : decode b_Tt_init 59 = .ok (.newarray .int, 2) := by decide +kernel
theorem d_Tt_init_61 : decode b_Tt_init 61 = .ok (.putfield 29, 3) := by decide +kernel
theorem d_Tt_init_64 : decode b_Tt_init 64 = .ok (.aload_n 0, 1) := by decide +kernel
theorem d_Tt_init_65 : decode b_Tt_init 65 = .ok (.iconst 0, 1) := by decide +kernel
theorem d_Tt_init_66 : decode b_Tt_init 66 = .ok (.putfield 32, 3) := by decide +kernel
theorem d_Tt_init_69 : decode b_Tt_init 69 = .ok (.aload_n 0, 1) := by decide +kernel
theorem d_Tt_init_70 : decode b_Tt_init 70 = .ok (.iconst 0, 1) := by decide +kernel
theorem d_Tt_init_71 : decode b_Tt_init 71 = .ok (.putfield 36, 3) := by decide +kernel
theorem d_Tt_init_74 : decode b_Tt_init 74 = .ok (.aload_n 0, 1) := by decide +kernel
theorem d_Tt_init_75 : decode b_Tt_init 75 = .ok (.aload_n 1, 1) := by decide +kernel
theorem d_Tt_init_76 : decode b_Tt_init 76 = .ok (.putfield 40, 3) := by decide +kernel
theorem d_Tt_init_79 : decode b_Tt_init 79 = .ok (.aload_n 0, 1) := by decide +kernel
theorem d_Tt_init_80 : decode b_Tt_init 80 = .ok (.aload_n 2, 1) := by decide +kernel
theorem d_Tt_init_81 : decode b_Tt_init 81 = .ok (.putfield 44, 3) := by decide +kernel
theorem d_Tt_init_84 : decode b_Tt_init 84 = .ok (.return_, 1) := by decide +kernel
theorem d_Tt_sumOfAll_0 : decode b_Tt_sumOfAll 0 = .ok (.aload_n 0, 1) := by decide +kernel
theorem d_Tt_sumOfAll_1 : decode b_Tt_sumOfAll 1 = .ok (.invokevirtual 48, 3) := by decide +kernel
theorem d_Tt_sumOfAll_4 : decode b_Tt_sumOfAll 4 = .ok (.aload_n 0, 1) := by decide +kernel
theorem d_Tt_sumOfAll_5 : decode b_Tt_sumOfAll 5 = .ok (.getfield 40, 3) := by decide +kernel
theorem d_Tt_sumOfAll_8 : decode b_Tt_sumOfAll 8 = .ok (.getfield 51, 3) := by decide +kernel
theorem d_Tt_sumOfAll_11 : decode b_Tt_sumOfAll 11 = .ok (.ifCond .le 26, 3) := by decide +kernel
theorem d_Tt_sumOfAll_14 : decode b_Tt_sumOfAll 14 = .ok (.aload_n 0, 1) := by decide +kernel
theorem d_Tt_sumOfAll_15 : decode b_Tt_sumOfAll 15 = .ok (.getfield 13, 3) := by decide +kernel
theorem d_Tt_sumOfAll_18 : decode b_Tt_sumOfAll 18 = .ok (.iload_n 1, 1) := by decide +kernel
theorem d_Tt_sumOfAll_19 : decode b_Tt_sumOfAll 19 = .ok (.aaload, 1) := by decide +kernel
theorem d_Tt_sumOfAll_20 : decode b_Tt_sumOfAll 20 = .ok (.iconst 0, 1) := by decide +kernel
theorem d_Tt_sumOfAll_21 : decode b_Tt_sumOfAll 21 = .ok (.aload_n 0, 1) := by decide +kernel
theorem d_Tt_sumOfAll_22 : decode b_Tt_sumOfAll 22 = .ok (.getfield 40, 3) := by decide +kernel
theorem d_Tt_sumOfAll_25 : decode b_Tt_sumOfAll 25 = .ok (.getfield 51, 3) := by decide +kernel
theorem d_Tt_sumOfAll_28 : decode b_Tt_sumOfAll 28 = .ok (.iconst 1, 1) := by decide +kernel
theorem d_Tt_sumOfAll_29 : decode b_Tt_sumOfAll 29 = .ok (.isub, 1) := by decide +kernel
theorem d_Tt_sumOfAll_30 : decode b_Tt_sumOfAll 30 = .ok (.invokestatic 56, 3) := by decide +kernel
theorem d_Tt_sumOfAll_33 : decode b_Tt_sumOfAll 33 = .ok (.laload, 1) := by decide +kernel
theorem d_Tt_sumOfAll_34 : decode b_Tt_sumOfAll 34 = .ok (.goto 4, 3) := by decide +kernel
theorem d_Tt_sumOfAll_37 : decode b_Tt_sumOfAll 37 = .ok (.lconst 0, 1) := by decide +kernel
theorem d_Tt_sumOfAll_38 : decode b_Tt_sumOfAll 38 = .ok (.lreturn, 1) := by decide +kernel
theorem d_Tt_refresh_0 : decode b_Tt_refresh 0 = .ok (.aload_n 0, 1) := by decide +kernel
theorem d_Tt_refresh_1 : decode b_Tt_refresh 1 = .ok (.getfield 36, 3) := by decide +kernel
theorem d_Tt_refresh_4 : decode b_Tt_refresh 4 = .ok (.ifCond .eq 4, 3) := by decide +kernel
theorem d_Tt_refresh_7 : decode b_Tt_refresh 7 = .ok (.return_, 1) := by decide +kernel
theorem d_Tt_refresh_8 : decode b_Tt_refresh 8 = .ok (.aload_n 0, 1) := by decide +kernel
theorem d_Tt_refresh_9 : decode b_Tt_refresh 9 = .ok (.iconst 1, 1) := by decide +kernel
theorem d_Tt_refresh_10 : decode b_Tt_refresh 10 = .ok (.putfield 36, 3) := by decide +kernel
theorem d_Tt_refresh_13 : decode b_Tt_refresh 13 = .ok (.iconst 1, 1) := by decide +kernel
theorem d_Tt_refresh_14 : decode b_Tt_refresh 14 = .ok (.istore_n 1, 1) := by decide +kernel
theorem d_Tt_refresh_15 : decode b_Tt_refresh 15 = .ok (.iload_n 1, 1) := by decide +kernel
theorem d_Tt_refresh_16 : decode b_Tt_refresh 16 = .ok (.aload_n 0, 1) := by decide +kernel
theorem d_Tt_refresh_17 : decode b_Tt_refresh 17 = .ok (.getfield 40, 3) := by decide +kernel
theorem d_Tt_refresh_20 : decode b_Tt_refresh 20 = .ok (.getfield 51, 3) := by decide +kernel
theorem d_Tt_refresh_23 : decode b_Tt_refresh 23 = .ok (.if_icmp .gt 60, 3) := by decide +kernel
theorem d_Tt_refresh_26 : decode b_Tt_refresh 26 = .ok (.iconst 0, 1) := by decide +kernel
theorem d_Tt_refresh_27 : decode b_Tt_refresh 27 = .ok (.istore_n 2, 1) := by decide +kernel
theorem d_Tt_refresh_28 : decode b_Tt_refresh 28 = .ok (.iload_n 2, 1) := by decide +kernel
theorem d_Tt_refresh_29 : decode b_Tt_refresh 29 = .ok (.iload_n 1, 1) := by decide +kernel
theorem d_Tt_refresh_30 : decode b_Tt_refresh 30 = .ok (.iadd, 1) := by decide +kernel
theorem d_Tt_refresh_31 : decode b_Tt_refresh 31 = .ok (.aload_n 0, 1) := by decide +kernel
theorem d_Tt_refresh_32 : decode b_Tt_refresh 32 = .ok (.getfield 40, 3) := by decide +kernel
theorem d_Tt_refresh_35 : decode b_Tt_refresh 35 = .ok (.getfield 51, 3) := by decide +kernel
theorem d_Tt_refresh_38 : decode b_Tt_refresh 38 = .ok (.if_icmp .gt 39, 3) := by decide +kernel
theorem d_Tt_refresh_41 : decode b_Tt_refresh 41 = .ok (.iconst 0, 1) := by decide +kernel
theorem d_Tt_refresh_42 : decode b_Tt_refresh 42 = .ok (.istore_n 3, 1) := by decide +kernel
theorem d_Tt_refresh_43 : decode b_Tt_refresh 43 = .ok (.iload_n 3, 1) := by decide +kernel
theorem d_Tt_refresh_44 : decode b_Tt_refresh 44 = .ok (.aload_n 0, 1) := by decide +kernel
theorem d_Tt_refresh_45 : decode b_Tt_refresh 45 = .ok (.getfield 44, 3) := by decide +kernel
theorem d_Tt_refresh_48 : decode b_Tt_refresh 48 = .ok (.getfield 60, 3) := by decide +kernel
theorem d_Tt_refresh_51 : decode b_Tt_refresh 51 = .ok (.if_icmp .ge 20, 3) := by decide +kernel
theorem d_Tt_refresh_54 : decode b_Tt_refresh 54 = .ok (.aload_n 0, 1) := by decide +kernel
theorem d_Tt_refresh_55 : decode b_Tt_refresh 55 = .ok (.iload_n 3, 1) := by decide +kernel
theorem d_Tt_refresh_56 : decode b_Tt_refresh 56 = .ok (.iload_n 2, 1) := by decide +kernel
theorem d_Tt_refresh_57 : decode b_Tt_refresh 57 = .ok (.iload_n 2, 1) := by decide +kernel
theorem d_Tt_refresh_58 : decode b_Tt_refresh 58 = .ok (.iload_n 1, 1) := by decide +kernel
theorem d_Tt_refresh_59 : decode b_Tt_refresh 59 = .ok (.iadd, 1) := by decide +kernel
theorem d_Tt_refresh_60 : decode b_Tt_refresh 60 = .ok (.iconst 1, 1) := by decide +kernel
theorem d_Tt_refresh_61 : decode b_Tt_refresh 61 = .ok (.isub, 1) := by decide +kernel
theorem d_Tt_refresh_62 : decode b_Tt_refresh 62 = .ok (.invokevirtual 64, 3) := by decide +kernel
theorem d_Tt_refresh_65 : decode b_Tt_refresh 65 = .ok (.iinc 3 1, 3) := by decide +kernel
theorem d_Tt_refresh_68 : decode b_Tt_refresh 68 = .ok (.goto (-25), 3) := by decide +kernel
theorem d_Tt_refresh_71 : decode b_Tt_refresh 71 = .ok (.iinc 2 1, 3) := by decide +kernel
theorem d_Tt_refresh_74 : decode b_Tt_refresh 74 = .ok (.goto (-46), 3) := by decide +kernel
theorem d_Tt_refresh_77 : decode b_Tt_refresh 77 = .ok (.iinc 1 1, 3) := by decide +kernel
theorem d_Tt_refresh_80 : decode b_Tt_refresh 80 = .ok (.goto (-65), 3) := by decide +kernel
theorem d_Tt_refresh_83 : decode b_Tt_refresh 83 = .ok (.return_, 1) := by decide +kernel
theorem d_Tt_fill_0 : decode b_Tt_fill 0 = .ok (.iload_n 2, 1) := by decide +kernel
theorem d_Tt_fill_1 : decode b_Tt_fill 1 = .ok (.iload_n 3, 1) := by decide +kernel
theorem d_Tt_fill_2 : decode b_Tt_fill 2 = .ok (.invokestatic 56, 3) := by decide +kernel
theorem d_Tt_fill_5 : decode b_Tt_fill 5 = .ok (.istore 4, 2) := by decide +kernel
theorem d_Tt_fill_7 : decode b_Tt_fill 7 = .ok (.iload_n 2, 1) := by decide +kernel
theorem d_Tt_fill_8 : decode b_Tt_fill 8 = .ok (.iload_n 3, 1) := by decide +kernel
theorem d_Tt_fill_9 : decode b_Tt_fill 9 = .ok (.if_icmp .ne 24, 3) := by decide +kernel
theorem d_Tt_fill_12 : decode b_Tt_fill 12 = .ok (.aload_n 0, 1) := by decide +kernel
theorem d_Tt_fill_13 : decode b_Tt_fill 13 = .ok (.getfield 44, 3) := by decide +kernel
theorem d_Tt_fill_16 : decode b_Tt_fill 16 = .ok (.iload_n 1, 1) := by decide +kernel
theorem d_Tt_fill_17 : decode b_Tt_fill 17 = .ok (.aload_n 0, 1) := by decide +kernel
theorem d_Tt_fill_18 : decode b_Tt_fill 18 = .ok (.getfield 40, 3) := by decide +kernel
theorem d_Tt_fill_21 : decode b_Tt_fill 21 = .ok (.getfield 68, 3) := by decide +kernel
theorem d_Tt_fill_24 : decode b_Tt_fill 24 = .ok (.iload_n 2, 1) := by decide +kernel
theorem d_Tt_fill_25 : decode b_Tt_fill 25 = .ok (.iaload, 1) := by decide +kernel
theorem d_Tt_fill_26 : decode b_Tt_fill 26 = .ok (.invokevirtual 71, 3) := by decide +kernel
theorem d_Tt_fill_29 : decode b_Tt_fill 29 = .ok (.i2l, 1) := by decide +kernel
theorem d_Tt_fill_30 : decode b_Tt_fill 30 = .ok (.goto 4, 3) := by decide +kernel
theorem d_Tt_fill_33 : decode b_Tt_fill 33 = .ok (.lconst 0, 1) := by decide +kernel
theorem d_Tt_fill_34 : decode b_Tt_fill 34 = .ok (.lstore 5, 2) := by decide +kernel
theorem d_Tt_fill_36 : decode b_Tt_fill 36 = .ok (.aload_n 0, 1) := by decide +kernel
theorem d_Tt_fill_37 : decode b_Tt_fill 37 = .ok (.getfield 13, 3) := by decide +kernel
theorem d_Tt_fill_40 : decode b_Tt_fill 40 = .ok (.iload_n 1, 1) := by decide +kernel
theorem d_Tt_fill_41 : decode b_Tt_fill 41 = .ok (.aaload, 1) := by decide +kernel
theorem d_Tt_fill_42 : decode b_Tt_fill 42 = .ok (.iload 4, 2) := by decide +kernel
theorem d_Tt_fill_44 : decode b_Tt_fill 44 = .ok (.lload 5, 2) := by decide +kernel
theorem d_Tt_fill_46 : decode b_Tt_fill 46 = .ok (.lastore, 1) := by decide +kernel
theorem d_Tt_fill_47 : decode b_Tt_fill 47 = .ok (.aload_n 0, 1) := by decide +kernel
theorem d_Tt_fill_48 : decode b_Tt_fill 48 = .ok (.getfield 16, 3) := by decide +kernel
theorem d_Tt_fill_51 : decode b_Tt_fill 51 = .ok (.iload_n 1, 1) := by decide +kernel
theorem d_Tt_fill_52 : decode b_Tt_fill 52 = .ok (.aaload, 1) := by decide +kernel
theorem d_Tt_fill_53 : decode b_Tt_fill 53 = .ok (.iload 4, 2) := by decide +kernel
theorem d_Tt_fill_55 : decode b_Tt_fill 55 = .ok (.lload 5, 2) := by decide +kernel
theorem d_Tt_fill_57 : decode b_Tt_fill 57 = .ok (.lconst 1, 1) := by decide +kernel
theorem d_Tt_fill_58 : decode b_Tt_fill 58 = .ok (.invokestatic 74, 3) := by decide +kernel
theorem d_Tt_fill_61 : decode b_Tt_fill 61 = .ok (.lastore, 1) := by decide +kernel
theorem d_Tt_fill_62 : decode b_Tt_fill 62 = .ok (.aload_n 0, 1) := by decide +kernel
theorem d_Tt_fill_63 : decode b_Tt_fill 63 = .ok (.getfield 19, 3) := by decide +kernel
theorem d_Tt_fill_66 : decode b_Tt_fill 66 = .ok (.iload_n 1, 1) := by decide +kernel
theorem d_Tt_fill_67 : decode b_Tt_fill 67 = .ok (.aaload, 1) := by decide +kernel
theorem d_Tt_fill_68 : decode b_Tt_fill 68 = .ok (.iload 4, 2) := by decide +kernel
theorem d_Tt_fill_70 : decode b_Tt_fill 70 = .ok (.lload 5, 2) := by decide +kernel
theorem d_Tt_fill_72 : decode b_Tt_fill 72 = .ok (.lastore, 1) := by decide +kernel
theorem d_Tt_fill_73 : decode b_Tt_fill 73 = .ok (.iload_n 2, 1) := by decide +kernel
theorem d_Tt_fill_74 : decode b_Tt_fill 74 = .ok (.iconst 1, 1) := by decide +kernel
theorem d_Tt_fill_75 : decode b_Tt_fill 75 = .ok (.iadd, 1) := by decide +kernel
theorem d_Tt_fill_76 : decode b_Tt_fill 76 = .ok (.istore 7, 2) := by decide +kernel
theorem d_Tt_fill_78 : decode b_Tt_fill 78 = .ok (.iload 7, 2) := by decide +kernel
theorem d_Tt_fill_80 : decode b_Tt_fill 80 = .ok (.iload_n 3, 1) := by decide +kernel
theorem d_Tt_fill_81 : decode b_Tt_fill 81 = .ok (.if_icmp .gt 30, 3) := by decide +kernel
theorem d_Tt_fill_84 : decode b_Tt_fill 84 = .ok (.aload_n 0, 1) := by decide +kernel
theorem d_Tt_fill_85 : decode b_Tt_fill 85 = .ok (.iload_n 1, 1) := by decide +kernel
theorem d_Tt_fill_86 : decode b_Tt_fill 86 = .ok (.iload 4, 2) := by decide +kernel
theorem d_Tt_fill_88 : decode b_Tt_fill 88 = .ok (.iload_n 2, 1) := by decide +kernel
theorem d_Tt_fill_89 : decode b_Tt_fill 89 = .ok (.iload 7, 2) := by decide +kernel
theorem d_Tt_fill_91 : decode b_Tt_fill 91 = .ok (.iconst 1, 1) := by decide +kernel
theorem d_Tt_fill_92 : decode b_Tt_fill 92 = .ok (.isub, 1) := by decide +kernel
theorem d_Tt_fill_93 : decode b_Tt_fill 93 = .ok (.invokestatic 56, 3) := by decide +kernel
theorem d_Tt_fill_96 : decode b_Tt_fill 96 = .ok (.iload 7, 2) := by decide +kernel
theorem d_Tt_fill_98 : decode b_Tt_fill 98 = .ok (.iload_n 3, 1) := by decide +kernel
theorem d_Tt_fill_99 : decode b_Tt_fill 99 = .ok (.invokestatic 56, 3) := by decide +kernel
theorem d_Tt_fill_102 : decode b_Tt_fill 102 = .ok (.invokevirtual 80, 3) := by decide +kernel
theorem d_Tt_fill_105 : decode b_Tt_fill 105 = .ok (.iinc 7 1, 3) := by decide +kernel
theorem d_Tt_fill_108 : decode b_Tt_fill 108 = .ok (.goto (-30), 3) := by decide +kernel
theorem d_Tt_fill_111 : decode b_Tt_fill 111 = .ok (.return_, 1) := by decide +kernel
theorem d_Tt_spanOf_0 : decode b_Tt_spanOf 0 = .ok (.iload_n 0, 1) := by decide +kernel
theorem d_Tt_spanOf_1 : decode b_Tt_spanOf 1 = .ok (.bipush 6, 2) := by decide +kernel
theorem d_Tt_spanOf_3 : decode b_Tt_spanOf 3 = .ok (.imul, 1) := by decide +kernel
theorem d_Tt_spanOf_4 : decode b_Tt_spanOf 4 = .ok (.iload_n 1, 1) := by decide +kernel
theorem d_Tt_spanOf_5 : decode b_Tt_spanOf 5 = .ok (.iadd, 1) := by decide +kernel
theorem d_Tt_spanOf_6 : decode b_Tt_spanOf 6 = .ok (.ireturn, 1) := by decide +kernel
theorem d_Tt_addSplit_0 : decode b_Tt_addSplit 0 = .ok (.iconst 0, 1) := by decide +kernel
theorem d_Tt_addSplit_1 : decode b_Tt_addSplit 1 = .ok (.istore 5, 2) := by decide +kernel
theorem d_Tt_addSplit_3 : decode b_Tt_addSplit 3 = .ok (.iload 5, 2) := by decide +kernel
theorem d_Tt_addSplit_5 : decode b_Tt_addSplit 5 = .ok (.aload_n 0, 1) := by decide +kernel
theorem d_Tt_addSplit_6 : decode b_Tt_addSplit 6 = .ok (.getfield 44, 3) := by decide +kernel
theorem d_Tt_addSplit_9 : decode b_Tt_addSplit 9 = .ok (.getfield 60, 3) := by decide +kernel
theorem d_Tt_addSplit_12 : decode b_Tt_addSplit 12 = .ok (.if_icmp .ge 164, 3) := by decide +kernel
theorem d_Tt_addSplit_15 : decode b_Tt_addSplit 15 = .ok (.iconst 0, 1) := by decide +kernel
theorem d_Tt_addSplit_16 : decode b_Tt_addSplit 16 = .ok (.istore 6, 2) := by decide +kernel
theorem d_Tt_addSplit_18 : decode b_Tt_addSplit 18 = .ok (.iload 6, 2) := by decide +kernel
theorem d_Tt_addSplit_20 : decode b_Tt_addSplit 20 = .ok (.aload_n 0, 1) := by decide +kernel
theorem d_Tt_addSplit_21 : decode b_Tt_addSplit 21 = .ok (.getfield 44, 3) := by decide +kernel
theorem d_Tt_addSplit_24 : decode b_Tt_addSplit 24 = .ok (.getfield 60, 3) := by decide +kernel
theorem d_Tt_addSplit_27 : decode b_Tt_addSplit 27 = .ok (.if_icmp .ge 143, 3) := by decide +kernel
theorem d_Tt_addSplit_30 : decode b_Tt_addSplit 30 = .ok (.aload_n 0, 1) := by decide +kernel
theorem d_Tt_addSplit_31 : decode b_Tt_addSplit 31 = .ok (.getfield 44, 3) := by decide +kernel
theorem d_Tt_addSplit_34 : decode b_Tt_addSplit 34 = .ok (.getfield 84, 3) := by decide +kernel
theorem d_Tt_addSplit_37 : decode b_Tt_addSplit 37 = .ok (.iload_n 1, 1) := by decide +kernel
theorem d_Tt_addSplit_38 : decode b_Tt_addSplit 38 = .ok (.aaload, 1) := by decide +kernel
theorem d_Tt_addSplit_39 : decode b_Tt_addSplit 39 = .ok (.iload 5, 2) := by decide +kernel
theorem d_Tt_addSplit_41 : decode b_Tt_addSplit 41 = .ok (.iload 6, 2) := by decide +kernel
theorem d_Tt_addSplit_43 : decode b_Tt_addSplit 43 = .ok (.invokestatic 88, 3) := by decide +kernel
theorem d_Tt_addSplit_46 : decode b_Tt_addSplit 46 = .ok (.iaload, 1) := by decide +kernel
theorem d_Tt_addSplit_47 : decode b_Tt_addSplit 47 = .ok (.i2l, 1) := by decide +kernel
theorem d_Tt_addSplit_48 : decode b_Tt_addSplit 48 = .ok (.lstore 7, 2) := by decide +kernel
theorem d_Tt_addSplit_50 : decode b_Tt_addSplit 50 = .ok (.lload 7, 2) := by decide +kernel
theorem d_Tt_addSplit_52 : decode b_Tt_addSplit 52 = .ok (.lconst 0, 1) := by decide +kernel
theorem d_Tt_addSplit_53 : decode b_Tt_addSplit 53 = .ok (.lcmp, 1) := by decide +kernel
theorem d_Tt_addSplit_54 : decode b_Tt_addSplit 54 = .ok (.ifCond .le 110, 3) := by decide +kernel
theorem d_Tt_addSplit_57 : decode b_Tt_addSplit 57 = .ok (.aload_n 0, 1) := by decide +kernel
theorem d_Tt_addSplit_58 : decode b_Tt_addSplit 58 = .ok (.getfield 13, 3) := by decide +kernel
theorem d_Tt_addSplit_61 : decode b_Tt_addSplit 61 = .ok (.iload_n 1, 1) := by decide +kernel
theorem d_Tt_addSplit_62 : decode b_Tt_addSplit 62 = .ok (.aaload, 1) := by decide +kernel
theorem d_Tt_addSplit_63 : decode b_Tt_addSplit 63 = .ok (.iload_n 2, 1) := by decide +kernel
theorem d_Tt_addSplit_64 : decode b_Tt_addSplit 64 = .ok (.dup2, 1) := by decide +kernel
theorem d_Tt_addSplit_65 : decode b_Tt_addSplit 65 = .ok (.laload, 1) := by decide +kernel
theorem d_Tt_addSplit_66 : decode b_Tt_addSplit 66 = .ok (.lload 7, 2) := by decide +kernel
theorem d_Tt_addSplit_68 : decode b_Tt_addSplit 68 = .ok (.aload_n 0, 1) := by decide +kernel
theorem d_Tt_addSplit_69 : decode b_Tt_addSplit 69 = .ok (.getfield 13, 3) := by decide +kernel
theorem d_Tt_addSplit_72 : decode b_Tt_addSplit 72 = .ok (.iload 5, 2) := by decide +kernel
theorem d_Tt_addSplit_74 : decode b_Tt_addSplit 74 = .ok (.aaload, 1) := by decide +kernel
theorem d_Tt_addSplit_75 : decode b_Tt_addSplit 75 = .ok (.iload_n 3, 1) := by decide +kernel
theorem d_Tt_addSplit_76 : decode b_Tt_addSplit 76 = .ok (.laload, 1) := by decide +kernel
theorem d_Tt_addSplit_77 : decode b_Tt_addSplit 77 = .ok (.lmul, 1) := by decide +kernel
theorem d_Tt_addSplit_78 : decode b_Tt_addSplit 78 = .ok (.aload_n 0, 1) := by decide +kernel
theorem d_Tt_addSplit_79 : decode b_Tt_addSplit 79 = .ok (.getfield 13, 3) := by decide +kernel
theorem d_Tt_addSplit_82 : decode b_Tt_addSplit 82 = .ok (.iload 6, 2) := by decide +kernel
theorem d_Tt_addSplit_84 : decode b_Tt_addSplit 84 = .ok (.aaload, 1) := by decide +kernel
theorem d_Tt_addSplit_85 : decode b_Tt_addSplit 85 = .ok (.iload 4, 2) := by decide +kernel
theorem d_Tt_addSplit_87 : decode b_Tt_addSplit 87 = .ok (.laload, 1) := by decide +kernel
theorem d_Tt_addSplit_88 : decode b_Tt_addSplit 88 = .ok (.lmul, 1) := by decide +kernel
theorem d_Tt_addSplit_89 : decode b_Tt_addSplit 89 = .ok (.ladd, 1) := by decide +kernel
theorem d_Tt_addSplit_90 : decode b_Tt_addSplit 90 = .ok (.lastore, 1) := by decide +kernel
theorem d_Tt_addSplit_91 : decode b_Tt_addSplit 91 = .ok (.aload_n 0, 1) := by decide +kernel
theorem d_Tt_addSplit_92 : decode b_Tt_addSplit 92 = .ok (.getfield 16, 3) := by decide +kernel
theorem d_Tt_addSplit_95 : decode b_Tt_addSplit 95 = .ok (.iload_n 1, 1) := by decide +kernel
theorem d_Tt_addSplit_96 : decode b_Tt_addSplit 96 = .ok (.aaload, 1) := by decide +kernel
theorem d_Tt_addSplit_97 : decode b_Tt_addSplit 97 = .ok (.iload_n 2, 1) := by decide +kernel
theorem d_Tt_addSplit_98 : decode b_Tt_addSplit 98 = .ok (.dup2, 1) := by decide +kernel
theorem d_Tt_addSplit_99 : decode b_Tt_addSplit 99 = .ok (.laload, 1) := by decide +kernel
theorem d_Tt_addSplit_100 : decode b_Tt_addSplit 100 = .ok (.aload_n 0, 1) := by decide +kernel
theorem d_Tt_addSplit_101 : decode b_Tt_addSplit 101 = .ok (.getfield 16, 3) := by decide +kernel
theorem d_Tt_addSplit_104 : decode b_Tt_addSplit 104 = .ok (.iload 5, 2) := by decide +kernel
theorem d_Tt_addSplit_106 : decode b_Tt_addSplit 106 = .ok (.aaload, 1) := by decide +kernel
theorem d_Tt_addSplit_107 : decode b_Tt_addSplit 107 = .ok (.iload_n 3, 1) := by decide +kernel
theorem d_Tt_addSplit_108 : decode b_Tt_addSplit 108 = .ok (.laload, 1) := by decide +kernel
theorem d_Tt_addSplit_109 : decode b_Tt_addSplit 109 = .ok (.aload_n 0, 1) := by decide +kernel
theorem d_Tt_addSplit_110 : decode b_Tt_addSplit 110 = .ok (.getfield 16, 3) := by decide +kernel
theorem d_Tt_addSplit_113 : decode b_Tt_addSplit 113 = .ok (.iload 6, 2) := by decide +kernel
theorem d_Tt_addSplit_115 : decode b_Tt_addSplit 115 = .ok (.aaload, 1) := by decide +kernel
theorem d_Tt_addSplit_116 : decode b_Tt_addSplit 116 = .ok (.iload 4, 2) := by decide +kernel
theorem d_Tt_addSplit_118 : decode b_Tt_addSplit 118 = .ok (.laload, 1) := by decide +kernel
theorem d_Tt_addSplit_119 : decode b_Tt_addSplit 119 = .ok (.lmul, 1) := by decide +kernel
theorem d_Tt_addSplit_120 : decode b_Tt_addSplit 120 = .ok (.ladd, 1) := by decide +kernel
theorem d_Tt_addSplit_121 : decode b_Tt_addSplit 121 = .ok (.lastore, 1) := by decide +kernel
theorem d_Tt_addSplit_122 : decode b_Tt_addSplit 122 = .ok (.aload_n 0, 1) := by decide +kernel
theorem d_Tt_addSplit_123 : decode b_Tt_addSplit 123 = .ok (.getfield 19, 3) := by decide +kernel
theorem d_Tt_addSplit_126 : decode b_Tt_addSplit 126 = .ok (.iload_n 1, 1) := by decide +kernel
theorem d_Tt_addSplit_127 : decode b_Tt_addSplit 127 = .ok (.aaload, 1) := by decide +kernel
theorem d_Tt_addSplit_128 : decode b_Tt_addSplit 128 = .ok (.iload_n 2, 1) := by decide +kernel
theorem d_Tt_addSplit_129 : decode b_Tt_addSplit 129 = .ok (.aload_n 0, 1) := by decide +kernel
theorem d_Tt_addSplit_130 : decode b_Tt_addSplit 130 = .ok (.getfield 19, 3) := by decide +kernel
theorem d_Tt_addSplit_133 : decode b_Tt_addSplit 133 = .ok (.iload_n 1, 1) := by decide +kernel
theorem d_Tt_addSplit_134 : decode b_Tt_addSplit 134 = .ok (.aaload, 1) := by decide +kernel
theorem d_Tt_addSplit_135 : decode b_Tt_addSplit 135 = .ok (.iload_n 2, 1) := by decide +kernel
theorem d_Tt_addSplit_136 : decode b_Tt_addSplit 136 = .ok (.laload, 1) := by decide +kernel
theorem d_Tt_addSplit_137 : decode b_Tt_addSplit 137 = .ok (.lload 7, 2) := by decide +kernel
theorem d_Tt_addSplit_139 : decode b_Tt_addSplit 139 = .ok (.aload_n 0, 1) := by decide +kernel
theorem d_Tt_addSplit_140 : decode b_Tt_addSplit 140 = .ok (.getfield 19, 3) := by decide +kernel
theorem d_Tt_addSplit_143 : decode b_Tt_addSplit 143 = .ok (.iload 5, 2) := by decide +kernel
theorem d_Tt_addSplit_145 : decode b_Tt_addSplit 145 = .ok (.aaload, 1) := by decide +kernel
theorem d_Tt_addSplit_146 : decode b_Tt_addSplit 146 = .ok (.iload_n 3, 1) := by decide +kernel
theorem d_Tt_addSplit_147 : decode b_Tt_addSplit 147 = .ok (.laload, 1) := by decide +kernel
theorem d_Tt_addSplit_148 : decode b_Tt_addSplit 148 = .ok (.lmul, 1) := by decide +kernel
theorem d_Tt_addSplit_149 : decode b_Tt_addSplit 149 = .ok (.aload_n 0, 1) := by decide +kernel
theorem d_Tt_addSplit_150 : decode b_Tt_addSplit 150 = .ok (.getfield 19, 3) := by decide +kernel
theorem d_Tt_addSplit_153 : decode b_Tt_addSplit 153 = .ok (.iload 6, 2) := by decide +kernel
theorem d_Tt_addSplit_155 : decode b_Tt_addSplit 155 = .ok (.aaload, 1) := by decide +kernel
theorem d_Tt_addSplit_156 : decode b_Tt_addSplit 156 = .ok (.iload 4, 2) := by decide +kernel
theorem d_Tt_addSplit_158 : decode b_Tt_addSplit 158 = .ok (.laload, 1) := by decide +kernel
theorem d_Tt_addSplit_159 : decode b_Tt_addSplit 159 = .ok (.lmul, 1) := by decide +kernel
theorem d_Tt_addSplit_160 : decode b_Tt_addSplit 160 = .ok (.invokestatic 91, 3) := by decide +kernel
theorem d_Tt_addSplit_163 : decode b_Tt_addSplit 163 = .ok (.lastore, 1) := by decide +kernel
theorem d_Tt_addSplit_164 : decode b_Tt_addSplit 164 = .ok (.iinc 6 1, 3) := by decide +kernel
theorem d_Tt_addSplit_167 : decode b_Tt_addSplit 167 = .ok (.goto (-149), 3) := by decide +kernel
theorem d_Tt_addSplit_170 : decode b_Tt_addSplit 170 = .ok (.iinc 5 1, 3) := by decide +kernel
theorem d_Tt_addSplit_173 : decode b_Tt_addSplit 173 = .ok (.goto (-170), 3) := by decide +kernel
theorem d_Tt_addSplit_176 : decode b_Tt_addSplit 176 = .ok (.return_, 1) := by decide +kernel
theorem d_Tt_countOfAll_0 : decode b_Tt_countOfAll 0 = .ok (.aload_n 0, 1) := by decide +kernel
theorem d_Tt_countOfAll_1 : decode b_Tt_countOfAll 1 = .ok (.invokevirtual 48, 3) := by decide +kernel
theorem d_Tt_countOfAll_4 : decode b_Tt_countOfAll 4 = .ok (.aload_n 0, 1) := by decide +kernel
theorem d_Tt_countOfAll_5 : decode b_Tt_countOfAll 5 = .ok (.getfield 40, 3) := by decide +kernel
theorem d_Tt_countOfAll_8 : decode b_Tt_countOfAll 8 = .ok (.getfield 51, 3) := by decide +kernel
theorem d_Tt_countOfAll_11 : decode b_Tt_countOfAll 11 = .ok (.ifCond .le 26, 3) := by decide +kernel
theorem d_Tt_countOfAll_14 : decode b_Tt_countOfAll 14 = .ok (.aload_n 0, 1) := by decide +kernel
theorem d_Tt_countOfAll_15 : decode b_Tt_countOfAll 15 = .ok (.getfield 16, 3) := by decide +kernel
theorem d_Tt_countOfAll_18 : decode b_Tt_countOfAll 18 = .ok (.iload_n 1, 1) := by decide +kernel
theorem d_Tt_countOfAll_19 : decode b_Tt_countOfAll 19 = .ok (.aaload, 1) := by decide +kernel
theorem d_Tt_countOfAll_20 : decode b_Tt_countOfAll 20 = .ok (.iconst 0, 1) := by decide +kernel
theorem d_Tt_countOfAll_21 : decode b_Tt_countOfAll 21 = .ok (.aload_n 0, 1) := by decide +kernel
theorem d_Tt_countOfAll_22 : decode b_Tt_countOfAll 22 = .ok (.getfield 40, 3) := by decide +kernel
theorem d_Tt_countOfAll_25 : decode b_Tt_countOfAll 25 = .ok (.getfield 51, 3) := by decide +kernel
theorem d_Tt_countOfAll_28 : decode b_Tt_countOfAll 28 = .ok (.iconst 1, 1) := by decide +kernel
theorem d_Tt_countOfAll_29 : decode b_Tt_countOfAll 29 = .ok (.isub, 1) := by decide +kernel
theorem d_Tt_countOfAll_30 : decode b_Tt_countOfAll 30 = .ok (.invokestatic 56, 3) := by decide +kernel
theorem d_Tt_countOfAll_33 : decode b_Tt_countOfAll 33 = .ok (.laload, 1) := by decide +kernel
theorem d_Tt_countOfAll_34 : decode b_Tt_countOfAll 34 = .ok (.goto 4, 3) := by decide +kernel
theorem d_Tt_countOfAll_37 : decode b_Tt_countOfAll 37 = .ok (.lconst 0, 1) := by decide +kernel
theorem d_Tt_countOfAll_38 : decode b_Tt_countOfAll 38 = .ok (.lreturn, 1) := by decide +kernel
theorem d_Tt_bestOfAll_0 : decode b_Tt_bestOfAll 0 = .ok (.aload_n 0, 1) := by decide +kernel
theorem d_Tt_bestOfAll_1 : decode b_Tt_bestOfAll 1 = .ok (.invokevirtual 48, 3) := by decide +kernel
theorem d_Tt_bestOfAll_4 : decode b_Tt_bestOfAll 4 = .ok (.aload_n 0, 1) := by decide +kernel
theorem d_Tt_bestOfAll_5 : decode b_Tt_bestOfAll 5 = .ok (.getfield 40, 3) := by decide +kernel
theorem d_Tt_bestOfAll_8 : decode b_Tt_bestOfAll 8 = .ok (.getfield 51, 3) := by decide +kernel
theorem d_Tt_bestOfAll_11 : decode b_Tt_bestOfAll 11 = .ok (.ifCond .le 26, 3) := by decide +kernel
theorem d_Tt_bestOfAll_14 : decode b_Tt_bestOfAll 14 = .ok (.aload_n 0, 1) := by decide +kernel
theorem d_Tt_bestOfAll_15 : decode b_Tt_bestOfAll 15 = .ok (.getfield 19, 3) := by decide +kernel
theorem d_Tt_bestOfAll_18 : decode b_Tt_bestOfAll 18 = .ok (.iload_n 1, 1) := by decide +kernel
theorem d_Tt_bestOfAll_19 : decode b_Tt_bestOfAll 19 = .ok (.aaload, 1) := by decide +kernel
theorem d_Tt_bestOfAll_20 : decode b_Tt_bestOfAll 20 = .ok (.iconst 0, 1) := by decide +kernel
theorem d_Tt_bestOfAll_21 : decode b_Tt_bestOfAll 21 = .ok (.aload_n 0, 1) := by decide +kernel
theorem d_Tt_bestOfAll_22 : decode b_Tt_bestOfAll 22 = .ok (.getfield 40, 3) := by decide +kernel
theorem d_Tt_bestOfAll_25 : decode b_Tt_bestOfAll 25 = .ok (.getfield 51, 3) := by decide +kernel
theorem d_Tt_bestOfAll_28 : decode b_Tt_bestOfAll 28 = .ok (.iconst 1, 1) := by decide +kernel
theorem d_Tt_bestOfAll_29 : decode b_Tt_bestOfAll 29 = .ok (.isub, 1) := by decide +kernel
theorem d_Tt_bestOfAll_30 : decode b_Tt_bestOfAll 30 = .ok (.invokestatic 56, 3) := by decide +kernel
theorem d_Tt_bestOfAll_33 : decode b_Tt_bestOfAll 33 = .ok (.laload, 1) := by decide +kernel
theorem d_Tt_bestOfAll_34 : decode b_Tt_bestOfAll 34 = .ok (.goto 4, 3) := by decide +kernel
theorem d_Tt_bestOfAll_37 : decode b_Tt_bestOfAll 37 = .ok (.lconst 0, 1) := by decide +kernel
theorem d_Tt_bestOfAll_38 : decode b_Tt_bestOfAll 38 = .ok (.lreturn, 1) := by decide +kernel
theorem d_Tt_bestTells_0 : decode b_Tt_bestTells 0 = .ok (.aload_n 0, 1) := by decide +kernel
theorem d_Tt_bestTells_1 : decode b_Tt_bestTells 1 = .ok (.invokevirtual 48, 3) := by decide +kernel
theorem d_Tt_bestTells_4 : decode b_Tt_bestTells 4 = .ok (.aload_n 0, 1) := by decide +kernel
theorem d_Tt_bestTells_5 : decode b_Tt_bestTells 5 = .ok (.iconst 0, 1) := by decide +kernel
theorem d_Tt_bestTells_6 : decode b_Tt_bestTells 6 = .ok (.putfield 32, 3) := by decide +kernel
theorem d_Tt_bestTells_9 : decode b_Tt_bestTells 9 = .ok (.aload_n 0, 1) := by decide +kernel
theorem d_Tt_bestTells_10 : decode b_Tt_bestTells 10 = .ok (.iload_n 1, 1) := by decide +kernel
theorem d_Tt_bestTells_11 : decode b_Tt_bestTells 11 = .ok (.iconst 0, 1) := by decide +kernel
theorem d_Tt_bestTells_12 : decode b_Tt_bestTells 12 = .ok (.aload_n 0, 1) := by decide +kernel
theorem d_Tt_bestTells_13 : decode b_Tt_bestTells 13 = .ok (.getfield 40, 3) := by decide +kernel
theorem d_Tt_bestTells_16 : decode b_Tt_bestTells 16 = .ok (.getfield 51, 3) := by decide +kernel
theorem d_Tt_bestTells_19 : decode b_Tt_bestTells 19 = .ok (.iconst 1, 1) := by decide +kernel
theorem d_Tt_bestTells_20 : decode b_Tt_bestTells 20 = .ok (.isub, 1) := by decide +kernel
theorem d_Tt_bestTells_21 : decode b_Tt_bestTells 21 = .ok (.invokestatic 56, 3) := by decide +kernel
theorem d_Tt_bestTells_24 : decode b_Tt_bestTells 24 = .ok (.invokevirtual 94, 3) := by decide +kernel
theorem d_Tt_bestTells_27 : decode b_Tt_bestTells 27 = .ok (.iconst (-1), 1) := by decide +kernel
theorem d_Tt_bestTells_28 : decode b_Tt_bestTells 28 = .ok (.istore_n 3, 1) := by decide +kernel
theorem d_Tt_bestTells_29 : decode b_Tt_bestTells 29 = .ok (.iconst 0, 1) := by decide +kernel
theorem d_Tt_bestTells_30 : decode b_Tt_bestTells 30 = .ok (.istore 4, 2) := by decide +kernel
theorem d_Tt_bestTells_32 : decode b_Tt_bestTells 32 = .ok (.iload 4, 2) := by decide +kernel
theorem d_Tt_bestTells_34 : decode b_Tt_bestTells 34 = .ok (.iload_n 2, 1) := by decide +kernel
theorem d_Tt_bestTells_35 : decode b_Tt_bestTells 35 = .ok (.if_icmp .gt 49, 3) := by decide +kernel
theorem d_Tt_bestTells_38 : decode b_Tt_bestTells 38 = .ok (.aload_n 0, 1) := by decide +kernel
theorem d_Tt_bestTells_39 : decode b_Tt_bestTells 39 = .ok (.getfield 32, 3) := by decide +kernel
theorem d_Tt_bestTells_42 : decode b_Tt_bestTells 42 = .ok (.ifCond .le 42, 3) := by decide +kernel
theorem d_Tt_bestTells_45 : decode b_Tt_bestTells 45 = .ok (.aload_n 0, 1) := by decide +kernel
theorem d_Tt_bestTells_46 : decode b_Tt_bestTells 46 = .ok (.dup, 1) := by decide +kernel
theorem d_Tt_bestTells_47 : decode b_Tt_bestTells 47 = .ok (.getfield 32, 3) := by decide +kernel
theorem d_Tt_bestTells_50 : decode b_Tt_bestTells 50 = .ok (.iconst 1, 1) := by decide +kernel
theorem d_Tt_bestTells_51 : decode b_Tt_bestTells 51 = .ok (.isub, 1) := by decide +kernel
theorem d_Tt_bestTells_52 : decode b_Tt_bestTells 52 = .ok (.putfield 32, 3) := by decide +kernel
theorem d_Tt_bestTells_55 : decode b_Tt_bestTells 55 = .ok (.aload_n 0, 1) := by decide +kernel
theorem d_Tt_bestTells_56 : decode b_Tt_bestTells 56 = .ok (.aload_n 0, 1) := by decide +kernel
theorem d_Tt_bestTells_57 : decode b_Tt_bestTells 57 = .ok (.getfield 25, 3) := by decide +kernel
theorem d_Tt_bestTells_60 : decode b_Tt_bestTells 60 = .ok (.aload_n 0, 1) := by decide +kernel
theorem d_Tt_bestTells_61 : decode b_Tt_bestTells 61 = .ok (.getfield 32, 3) := by decide +kernel
theorem d_Tt_bestTells_64 : decode b_Tt_bestTells 64 = .ok (.iaload, 1) := by decide +kernel
theorem d_Tt_bestTells_65 : decode b_Tt_bestTells 65 = .ok (.aload_n 0, 1) := by decide +kernel
theorem d_Tt_bestTells_66 : decode b_Tt_bestTells 66 = .ok (.getfield 29, 3) := by decide +kernel
theorem d_Tt_bestTells_69 : decode b_Tt_bestTells 69 = .ok (.aload_n 0, 1) := by decide +kernel
theorem d_Tt_bestTells_70 : decode b_Tt_bestTells 70 = .ok (.getfield 32, 3) := by decide +kernel
theorem d_Tt_bestTells_73 : decode b_Tt_bestTells 73 = .ok (.iaload, 1) := by decide +kernel
theorem d_Tt_bestTells_74 : decode b_Tt_bestTells 74 = .ok (.invokevirtual 98, 3) := by decide +kernel
theorem d_Tt_bestTells_77 : decode b_Tt_bestTells 77 = .ok (.istore_n 3, 1) := by decide +kernel
theorem d_Tt_bestTells_78 : decode b_Tt_bestTells 78 = .ok (.iinc 4 1, 3) := by decide +kernel
theorem d_Tt_bestTells_81 : decode b_Tt_bestTells 81 = .ok (.goto (-49), 3) := by decide +kernel
theorem d_Tt_bestTells_84 : decode b_Tt_bestTells 84 = .ok (.iload_n 3, 1) := by decide +kernel
theorem d_Tt_bestTells_85 : decode b_Tt_bestTells 85 = .ok (.ireturn, 1) := by decide +kernel
theorem d_Tt_push_0 : decode b_Tt_push 0 = .ok (.aload_n 0, 1) := by decide +kernel
theorem d_Tt_push_1 : decode b_Tt_push 1 = .ok (.getfield 32, 3) := by decide +kernel
theorem d_Tt_push_4 : decode b_Tt_push 4 = .ok (.bipush 6, 2) := by decide +kernel
theorem d_Tt_push_6 : decode b_Tt_push 6 = .ok (.if_icmp .gt 33, 3) := by decide +kernel
theorem d_Tt_push_9 : decode b_Tt_push 9 = .ok (.aload_n 0, 1) := by decide +kernel
theorem d_Tt_push_10 : decode b_Tt_push 10 = .ok (.getfield 25, 3) := by decide +kernel
theorem d_Tt_push_13 : decode b_Tt_push 13 = .ok (.aload_n 0, 1) := by decide +kernel
theorem d_Tt_push_14 : decode b_Tt_push 14 = .ok (.getfield 32, 3) := by decide +kernel
theorem d_Tt_push_17 : decode b_Tt_push 17 = .ok (.iload_n 1, 1) := by decide +kernel
theorem d_Tt_push_18 : decode b_Tt_push 18 = .ok (.iastore, 1) := by decide +kernel
theorem d_Tt_push_19 : decode b_Tt_push 19 = .ok (.aload_n 0, 1) := by decide +kernel
theorem d_Tt_push_20 : decode b_Tt_push 20 = .ok (.getfield 29, 3) := by decide +kernel
theorem d_Tt_push_23 : decode b_Tt_push 23 = .ok (.aload_n 0, 1) := by decide +kernel
theorem d_Tt_push_24 : decode b_Tt_push 24 = .ok (.getfield 32, 3) := by decide +kernel
theorem d_Tt_push_27 : decode b_Tt_push 27 = .ok (.iload_n 2, 1) := by decide +kernel
theorem d_Tt_push_28 : decode b_Tt_push 28 = .ok (.iastore, 1) := by decide +kernel
theorem d_Tt_push_29 : decode b_Tt_push 29 = .ok (.aload_n 0, 1) := by decide +kernel
theorem d_Tt_push_30 : decode b_Tt_push 30 = .ok (.dup, 1) := by decide +kernel
theorem d_Tt_push_31 : decode b_Tt_push 31 = .ok (.getfield 32, 3) := by decide +kernel
theorem d_Tt_push_34 : decode b_Tt_push 34 = .ok (.iconst 1, 1) := by decide +kernel
theorem d_Tt_push_35 : decode b_Tt_push 35 = .ok (.iadd, 1) := by decide +kernel
theorem d_Tt_push_36 : decode b_Tt_push 36 = .ok (.putfield 32, 3) := by decide +kernel
theorem d_Tt_push_39 : decode b_Tt_push 39 = .ok (.return_, 1) := by decide +kernel
theorem d_Tt_tellNode_0 : decode b_Tt_tellNode 0 = .ok (.iload_n 2, 1) := by decide +kernel
theorem d_Tt_tellNode_1 : decode b_Tt_tellNode 1 = .ok (.bipush 6, 2) := by decide +kernel
theorem d_Tt_tellNode_3 : decode b_Tt_tellNode 3 = .ok (.idiv, 1) := by decide +kernel
theorem d_Tt_tellNode_4 : decode b_Tt_tellNode 4 = .ok (.istore_n 3, 1) := by decide +kernel
theorem d_Tt_tellNode_5 : decode b_Tt_tellNode 5 = .ok (.iload_n 2, 1) := by decide +kernel
theorem d_Tt_tellNode_6 : decode b_Tt_tellNode 6 = .ok (.bipush 6, 2) := by decide +kernel
theorem d_Tt_tellNode_8 : decode b_Tt_tellNode 8 = .ok (.irem, 1) := by decide +kernel
theorem d_Tt_tellNode_9 : decode b_Tt_tellNode 9 = .ok (.istore 4, 2) := by decide +kernel
theorem d_Tt_tellNode_11 : decode b_Tt_tellNode 11 = .ok (.iload_n 3, 1) := by decide +kernel
theorem d_Tt_tellNode_12 : decode b_Tt_tellNode 12 = .ok (.iconst 1, 1) := by decide +kernel
theorem d_Tt_tellNode_13 : decode b_Tt_tellNode 13 = .ok (.iadd, 1) := by decide +kernel
theorem d_Tt_tellNode_14 : decode b_Tt_tellNode 14 = .ok (.istore 5, 2) := by decide +kernel
theorem d_Tt_tellNode_16 : decode b_Tt_tellNode 16 = .ok (.iload 5, 2) := by decide +kernel
theorem d_Tt_tellNode_18 : decode b_Tt_tellNode 18 = .ok (.iload 4, 2) := by decide +kernel
theorem d_Tt_tellNode_20 : decode b_Tt_tellNode 20 = .ok (.if_icmp .gt 88, 3) := by decide +kernel
theorem d_Tt_tellNode_23 : decode b_Tt_tellNode 23 = .ok (.iload_n 3, 1) := by decide +kernel
theorem d_Tt_tellNode_24 : decode b_Tt_tellNode 24 = .ok (.iload 5, 2) := by decide +kernel
theorem d_Tt_tellNode_26 : decode b_Tt_tellNode 26 = .ok (.iconst 1, 1) := by decide +kernel
theorem d_Tt_tellNode_27 : decode b_Tt_tellNode 27 = .ok (.isub, 1) := by decide +kernel
theorem d_Tt_tellNode_28 : decode b_Tt_tellNode 28 = .ok (.invokestatic 56, 3) := by decide +kernel
theorem d_Tt_tellNode_31 : decode b_Tt_tellNode 31 = .ok (.istore 6, 2) := by decide +kernel
theorem d_Tt_tellNode_33 : decode b_Tt_tellNode 33 = .ok (.iload 5, 2) := by decide +kernel
theorem d_Tt_tellNode_35 : decode b_Tt_tellNode 35 = .ok (.iload 4, 2) := by decide +kernel
theorem d_Tt_tellNode_37 : decode b_Tt_tellNode 37 = .ok (.invokestatic 56, 3) := by decide +kernel
theorem d_Tt_tellNode_40 : decode b_Tt_tellNode 40 = .ok (.istore 7, 2) := by decide +kernel
theorem d_Tt_tellNode_42 : decode b_Tt_tellNode 42 = .ok (.aload_n 0, 1) := by decide +kernel
theorem d_Tt_tellNode_43 : decode b_Tt_tellNode 43 = .ok (.iload_n 1, 1) := by decide +kernel
theorem d_Tt_tellNode_44 : decode b_Tt_tellNode 44 = .ok (.iload_n 2, 1) := by decide +kernel
theorem d_Tt_tellNode_45 : decode b_Tt_tellNode 45 = .ok (.iload 6, 2) := by decide +kernel
theorem d_Tt_tellNode_47 : decode b_Tt_tellNode 47 = .ok (.iload 7, 2) := by decide +kernel
theorem d_Tt_tellNode_49 : decode b_Tt_tellNode 49 = .ok (.invokevirtual 101, 3) := by decide +kernel
theorem d_Tt_tellNode_52 : decode b_Tt_tellNode 52 = .ok (.istore 8, 2) := by decide +kernel
theorem d_Tt_tellNode_54 : decode b_Tt_tellNode 54 = .ok (.iload 8, 2) := by decide +kernel
theorem d_Tt_tellNode_56 : decode b_Tt_tellNode 56 = .ok (.ifCond .lt 46, 3) := by decide +kernel
theorem d_Tt_tellNode_59 : decode b_Tt_tellNode 59 = .ok (.iload 8, 2) := by decide +kernel
theorem d_Tt_tellNode_61 : decode b_Tt_tellNode 61 = .ok (.iconst 4, 1) := by decide +kernel
theorem d_Tt_tellNode_62 : decode b_Tt_tellNode 62 = .ok (.idiv, 1) := by decide +kernel
theorem d_Tt_tellNode_63 : decode b_Tt_tellNode 63 = .ok (.istore 9, 2) := by decide +kernel
theorem d_Tt_tellNode_65 : decode b_Tt_tellNode 65 = .ok (.iload 8, 2) := by decide +kernel
theorem d_Tt_tellNode_67 : decode b_Tt_tellNode 67 = .ok (.iconst 4, 1) := by decide +kernel
theorem d_Tt_tellNode_68 : decode b_Tt_tellNode 68 = .ok (.irem, 1) := by decide +kernel
theorem d_Tt_tellNode_69 : decode b_Tt_tellNode 69 = .ok (.istore 10, 2) := by decide +kernel
theorem d_Tt_tellNode_71 : decode b_Tt_tellNode 71 = .ok (.aload_n 0, 1) := by decide +kernel
theorem d_Tt_tellNode_72 : decode b_Tt_tellNode 72 = .ok (.iload 10, 2) := by decide +kernel
theorem d_Tt_tellNode_74 : decode b_Tt_tellNode 74 = .ok (.iload 7, 2) := by decide +kernel
theorem d_Tt_tellNode_76 : decode b_Tt_tellNode 76 = .ok (.invokevirtual 94, 3) := by decide +kernel
theorem d_Tt_tellNode_79 : decode b_Tt_tellNode 79 = .ok (.aload_n 0, 1) := by decide +kernel
theorem d_Tt_tellNode_80 : decode b_Tt_tellNode 80 = .ok (.iload 9, 2) := by decide +kernel
theorem d_Tt_tellNode_82 : decode b_Tt_tellNode 82 = .ok (.iload 6, 2) := by decide +kernel
theorem d_Tt_tellNode_84 : decode b_Tt_tellNode 84 = .ok (.invokevirtual 94, 3) := by decide +kernel
theorem d_Tt_tellNode_87 : decode b_Tt_tellNode 87 = .ok (.bipush 100, 2) := by decide +kernel
theorem d_Tt_tellNode_89 : decode b_Tt_tellNode 89 = .ok (.iload 5, 2) := by decide +kernel
theorem d_Tt_tellNode_91 : decode b_Tt_tellNode 91 = .ok (.imul, 1) := by decide +kernel
theorem d_Tt_tellNode_92 : decode b_Tt_tellNode 92 = .ok (.bipush 10, 2) := by decide +kernel
theorem d_Tt_tellNode_94 : decode b_Tt_tellNode 94 = .ok (.iload 9, 2) := by decide +kernel
theorem d_Tt_tellNode_96 : decode b_Tt_tellNode 96 = .ok (.imul, 1) := by decide +kernel
theorem d_Tt_tellNode_97 : decode b_Tt_tellNode 97 = .ok (.iadd, 1) := by decide +kernel
theorem d_Tt_tellNode_98 : decode b_Tt_tellNode 98 = .ok (.iload 10, 2) := by decide +kernel
theorem d_Tt_tellNode_100 : decode b_Tt_tellNode 100 = .ok (.iadd, 1) := by decide +kernel
theorem d_Tt_tellNode_101 : decode b_Tt_tellNode 101 = .ok (.ireturn, 1) := by decide +kernel
theorem d_Tt_tellNode_102 : decode b_Tt_tellNode 102 = .ok (.iinc 5 1, 3) := by decide +kernel
theorem d_Tt_tellNode_105 : decode b_Tt_tellNode 105 = .ok (.goto (-89), 3) := by decide +kernel
theorem d_Tt_tellNode_108 : decode b_Tt_tellNode 108 = .ok (.iconst 0, 1) := by decide +kernel
theorem d_Tt_tellNode_109 : decode b_Tt_tellNode 109 = .ok (.ireturn, 1) := by decide +kernel
theorem d_Tt_bestParts_0 : decode b_Tt_bestParts 0 = .ok (.iconst 0, 1) := by decide +kernel
theorem d_Tt_bestParts_1 : decode b_Tt_bestParts 1 = .ok (.istore 5, 2) := by decide +kernel
theorem d_Tt_bestParts_3 : decode b_Tt_bestParts 3 = .ok (.iload 5, 2) := by decide +kernel
theorem d_Tt_bestParts_5 : decode b_Tt_bestParts 5 = .ok (.aload_n 0, 1) := by decide +kernel
theorem d_Tt_bestParts_6 : decode b_Tt_bestParts 6 = .ok (.getfield 44, 3) := by decide +kernel
theorem d_Tt_bestParts_9 : decode b_Tt_bestParts 9 = .ok (.getfield 60, 3) := by decide +kernel
theorem d_Tt_bestParts_12 : decode b_Tt_bestParts 12 = .ok (.if_icmp .ge 93, 3) := by decide +kernel
theorem d_Tt_bestParts_15 : decode b_Tt_bestParts 15 = .ok (.iconst 0, 1) := by decide +kernel
theorem d_Tt_bestParts_16 : decode b_Tt_bestParts 16 = .ok (.istore 6, 2) := by decide +kernel
theorem d_Tt_bestParts_18 : decode b_Tt_bestParts 18 = .ok (.iload 6, 2) := by decide +kernel
theorem d_Tt_bestParts_20 : decode b_Tt_bestParts 20 = .ok (.aload_n 0, 1) := by decide +kernel
theorem d_Tt_bestParts_21 : decode b_Tt_bestParts 21 = .ok (.getfield 44, 3) := by decide +kernel
theorem d_Tt_bestParts_24 : decode b_Tt_bestParts 24 = .ok (.getfield 60, 3) := by decide +kernel
theorem d_Tt_bestParts_27 : decode b_Tt_bestParts 27 = .ok (.if_icmp .ge 72, 3) := by decide +kernel
theorem d_Tt_bestParts_30 : decode b_Tt_bestParts 30 = .ok (.aload_n 0, 1) := by decide +kernel
theorem d_Tt_bestParts_31 : decode b_Tt_bestParts 31 = .ok (.getfield 44, 3) := by decide +kernel
theorem d_Tt_bestParts_34 : decode b_Tt_bestParts 34 = .ok (.getfield 84, 3) := by decide +kernel
theorem d_Tt_bestParts_37 : decode b_Tt_bestParts 37 = .ok (.iload_n 1, 1) := by decide +kernel
theorem d_Tt_bestParts_38 : decode b_Tt_bestParts 38 = .ok (.aaload, 1) := by decide +kernel
theorem d_Tt_bestParts_39 : decode b_Tt_bestParts 39 = .ok (.iload 5, 2) := by decide +kernel
theorem d_Tt_bestParts_41 : decode b_Tt_bestParts 41 = .ok (.iload 6, 2) := by decide +kernel
theorem d_Tt_bestParts_43 : decode b_Tt_bestParts 43 = .ok (.invokestatic 88, 3) := by decide +kernel
theorem d_Tt_bestParts_46 : decode b_Tt_bestParts 46 = .ok (.iaload, 1) := by decide +kernel
theorem d_Tt_bestParts_47 : decode b_Tt_bestParts 47 = .ok (.i2l, 1) := by decide +kernel
theorem d_Tt_bestParts_48 : decode b_Tt_bestParts 48 = .ok (.lstore 7, 2) := by decide +kernel
theorem d_Tt_bestParts_50 : decode b_Tt_bestParts 50 = .ok (.lload 7, 2) := by decide +kernel
theorem d_Tt_bestParts_52 : decode b_Tt_bestParts 52 = .ok (.aload_n 0, 1) := by decide +kernel
theorem d_Tt_bestParts_53 : decode b_Tt_bestParts 53 = .ok (.getfield 19, 3) := by decide +kernel
theorem d_Tt_bestParts_56 : decode b_Tt_bestParts 56 = .ok (.iload 5, 2) := by decide +kernel
theorem d_Tt_bestParts_58 : decode b_Tt_bestParts 58 = .ok (.aaload, 1) := by decide +kernel
theorem d_Tt_bestParts_59 : decode b_Tt_bestParts 59 = .ok (.iload_n 3, 1) := by decide +kernel
theorem d_Tt_bestParts_60 : decode b_Tt_bestParts 60 = .ok (.laload, 1) := by decide +kernel
theorem d_Tt_bestParts_61 : decode b_Tt_bestParts 61 = .ok (.lmul, 1) := by decide +kernel
theorem d_Tt_bestParts_62 : decode b_Tt_bestParts 62 = .ok (.aload_n 0, 1) := by decide +kernel
theorem d_Tt_bestParts_63 : decode b_Tt_bestParts 63 = .ok (.getfield 19, 3) := by decide +kernel
theorem d_Tt_bestParts_66 : decode b_Tt_bestParts 66 = .ok (.iload 6, 2) := by decide +kernel
theorem d_Tt_bestParts_68 : decode b_Tt_bestParts 68 = .ok (.aaload, 1) := by decide +kernel
theorem d_Tt_bestParts_69 : decode b_Tt_bestParts 69 = .ok (.iload 4, 2) := by decide +kernel
theorem d_Tt_bestParts_71 : decode b_Tt_bestParts 71 = .ok (.laload, 1) := by decide +kernel
theorem d_Tt_bestParts_72 : decode b_Tt_bestParts 72 = .ok (.lmul, 1) := by decide +kernel
theorem d_Tt_bestParts_73 : decode b_Tt_bestParts 73 = .ok (.aload_n 0, 1) := by decide +kernel
theorem d_Tt_bestParts_74 : decode b_Tt_bestParts 74 = .ok (.getfield 19, 3) := by decide +kernel
theorem d_Tt_bestParts_77 : decode b_Tt_bestParts 77 = .ok (.iload_n 1, 1) := by decide +kernel
theorem d_Tt_bestParts_78 : decode b_Tt_bestParts 78 = .ok (.aaload, 1) := by decide +kernel
theorem d_Tt_bestParts_79 : decode b_Tt_bestParts 79 = .ok (.iload_n 2, 1) := by decide +kernel
theorem d_Tt_bestParts_80 : decode b_Tt_bestParts 80 = .ok (.laload, 1) := by decide +kernel
theorem d_Tt_bestParts_81 : decode b_Tt_bestParts 81 = .ok (.lcmp, 1) := by decide +kernel
theorem d_Tt_bestParts_82 : decode b_Tt_bestParts 82 = .ok (.ifCond .ne 11, 3) := by decide +kernel
theorem d_Tt_bestParts_85 : decode b_Tt_bestParts 85 = .ok (.iload 5, 2) := by decide +kernel
theorem d_Tt_bestParts_87 : decode b_Tt_bestParts 87 = .ok (.iload 6, 2) := by decide +kernel
theorem d_Tt_bestParts_89 : decode b_Tt_bestParts 89 = .ok (.invokestatic 88, 3) := by decide +kernel
theorem d_Tt_bestParts_92 : decode b_Tt_bestParts 92 = .ok (.ireturn, 1) := by decide +kernel
theorem d_Tt_bestParts_93 : decode b_Tt_bestParts 93 = .ok (.iinc 6 1, 3) := by decide +kernel
theorem d_Tt_bestParts_96 : decode b_Tt_bestParts 96 = .ok (.goto (-78), 3) := by decide +kernel
theorem d_Tt_bestParts_99 : decode b_Tt_bestParts 99 = .ok (.iinc 5 1, 3) := by decide +kernel
theorem d_Tt_bestParts_102 : decode b_Tt_bestParts 102 = .ok (.goto (-99), 3) := by decide +kernel
theorem d_Tt_bestParts_105 : decode b_Tt_bestParts 105 = .ok (.iconst (-1), 1) := by decide +kernel
theorem d_Tt_bestParts_106 : decode b_Tt_bestParts 106 = .ok (.ireturn, 1) := by decide +kernel
theorem d_Tt_sumWith_0 : decode b_Tt_sumWith 0 = .ok (.aload_n 0, 1) := by decide +kernel
theorem d_Tt_sumWith_1 : decode b_Tt_sumWith 1 = .ok (.invokevirtual 48, 3) := by decide +kernel
theorem d_Tt_sumWith_4 : decode b_Tt_sumWith 4 = .ok (.iload_n 3, 1) := by decide +kernel
theorem d_Tt_sumWith_5 : decode b_Tt_sumWith 5 = .ok (.istore 5, 2) := by decide +kernel
theorem d_Tt_sumWith_7 : decode b_Tt_sumWith 7 = .ok (.iload 5, 2) := by decide +kernel
theorem d_Tt_sumWith_9 : decode b_Tt_sumWith 9 = .ok (.ifCond .lt 121, 3) := by decide +kernel
theorem d_Tt_sumWith_12 : decode b_Tt_sumWith 12 = .ok (.iload 4, 2) := by decide +kernel
theorem d_Tt_sumWith_14 : decode b_Tt_sumWith 14 = .ok (.istore 6, 2) := by decide +kernel
theorem d_Tt_sumWith_16 : decode b_Tt_sumWith 16 = .ok (.iload 6, 2) := by decide +kernel
theorem d_Tt_sumWith_18 : decode b_Tt_sumWith 18 = .ok (.aload_n 0, 1) := by decide +kernel
theorem d_Tt_sumWith_19 : decode b_Tt_sumWith 19 = .ok (.getfield 40, 3) := by decide +kernel
theorem d_Tt_sumWith_22 : decode b_Tt_sumWith 22 = .ok (.getfield 51, 3) := by decide +kernel
theorem d_Tt_sumWith_25 : decode b_Tt_sumWith 25 = .ok (.if_icmp .ge 99, 3) := by decide +kernel
theorem d_Tt_sumWith_28 : decode b_Tt_sumWith 28 = .ok (.iconst 0, 1) := by decide +kernel
theorem d_Tt_sumWith_29 : decode b_Tt_sumWith 29 = .ok (.istore 7, 2) := by decide +kernel
theorem d_Tt_sumWith_31 : decode b_Tt_sumWith 31 = .ok (.iload 7, 2) := by decide +kernel
theorem d_Tt_sumWith_33 : decode b_Tt_sumWith 33 = .ok (.aload_n 0, 1) := by decide +kernel
theorem d_Tt_sumWith_34 : decode b_Tt_sumWith 34 = .ok (.getfield 44, 3) := by decide +kernel
theorem d_Tt_sumWith_37 : decode b_Tt_sumWith 37 = .ok (.getfield 60, 3) := by decide +kernel
theorem d_Tt_sumWith_40 : decode b_Tt_sumWith 40 = .ok (.if_icmp .ge 25, 3) := by decide +kernel
theorem d_Tt_sumWith_43 : decode b_Tt_sumWith 43 = .ok (.aload_n 0, 1) := by decide +kernel
theorem d_Tt_sumWith_44 : decode b_Tt_sumWith 44 = .ok (.getfield 22, 3) := by decide +kernel
theorem d_Tt_sumWith_47 : decode b_Tt_sumWith 47 = .ok (.iload 7, 2) := by decide +kernel
theorem d_Tt_sumWith_49 : decode b_Tt_sumWith 49 = .ok (.aaload, 1) := by decide +kernel
theorem d_Tt_sumWith_50 : decode b_Tt_sumWith 50 = .ok (.iload 5, 2) := by decide +kernel
theorem d_Tt_sumWith_52 : decode b_Tt_sumWith 52 = .ok (.iload 6, 2) := by decide +kernel
theorem d_Tt_sumWith_54 : decode b_Tt_sumWith 54 = .ok (.invokestatic 56, 3) := by decide +kernel
theorem d_Tt_sumWith_57 : decode b_Tt_sumWith 57 = .ok (.lconst 0, 1) := by decide +kernel
theorem d_Tt_sumWith_58 : decode b_Tt_sumWith 58 = .ok (.lastore, 1) := by decide +kernel
theorem d_Tt_sumWith_59 : decode b_Tt_sumWith 59 = .ok (.iinc 7 1, 3) := by decide +kernel
theorem d_Tt_sumWith_62 : decode b_Tt_sumWith 62 = .ok (.goto (-31), 3) := by decide +kernel
theorem d_Tt_sumWith_65 : decode b_Tt_sumWith 65 = .ok (.iload 5, 2) := by decide +kernel
theorem d_Tt_sumWith_67 : decode b_Tt_sumWith 67 = .ok (.iload_n 3, 1) := by decide +kernel
theorem d_Tt_sumWith_68 : decode b_Tt_sumWith 68 = .ok (.if_icmp .ne 39, 3) := by decide +kernel
theorem d_Tt_sumWith_71 : decode b_Tt_sumWith 71 = .ok (.iload 6, 2) := by decide +kernel
theorem d_Tt_sumWith_73 : decode b_Tt_sumWith 73 = .ok (.iload 4, 2) := by decide +kernel
theorem d_Tt_sumWith_75 : decode b_Tt_sumWith 75 = .ok (.if_icmp .ne 32, 3) := by decide +kernel
theorem d_Tt_sumWith_78 : decode b_Tt_sumWith 78 = .ok (.aload_n 0, 1) := by decide +kernel
theorem d_Tt_sumWith_79 : decode b_Tt_sumWith 79 = .ok (.getfield 22, 3) := by decide +kernel
theorem d_Tt_sumWith_82 : decode b_Tt_sumWith 82 = .ok (.iload_n 2, 1) := by decide +kernel
theorem d_Tt_sumWith_83 : decode b_Tt_sumWith 83 = .ok (.aaload, 1) := by decide +kernel
theorem d_Tt_sumWith_84 : decode b_Tt_sumWith 84 = .ok (.iload_n 3, 1) := by decide +kernel
theorem d_Tt_sumWith_85 : decode b_Tt_sumWith 85 = .ok (.iload 4, 2) := by decide +kernel
theorem d_Tt_sumWith_87 : decode b_Tt_sumWith 87 = .ok (.invokestatic 56, 3) := by decide +kernel
theorem d_Tt_sumWith_90 : decode b_Tt_sumWith 90 = .ok (.aload_n 0, 1) := by decide +kernel
theorem d_Tt_sumWith_91 : decode b_Tt_sumWith 91 = .ok (.getfield 13, 3) := by decide +kernel
theorem d_Tt_sumWith_94 : decode b_Tt_sumWith 94 = .ok (.iload_n 2, 1) := by decide +kernel
theorem d_Tt_sumWith_95 : decode b_Tt_sumWith 95 = .ok (.aaload, 1) := by decide +kernel
theorem d_Tt_sumWith_96 : decode b_Tt_sumWith 96 = .ok (.iload_n 3, 1) := by decide +kernel
theorem d_Tt_sumWith_97 : decode b_Tt_sumWith 97 = .ok (.iload 4, 2) := by decide +kernel
theorem d_Tt_sumWith_99 : decode b_Tt_sumWith 99 = .ok (.invokestatic 56, 3) := by decide +kernel
theorem d_Tt_sumWith_102 : decode b_Tt_sumWith 102 = .ok (.laload, 1) := by decide +kernel
theorem d_Tt_sumWith_103 : decode b_Tt_sumWith 103 = .ok (.lastore, 1) := by decide +kernel
theorem d_Tt_sumWith_104 : decode b_Tt_sumWith 104 = .ok (.goto 14, 3) := by decide +kernel
theorem d_Tt_sumWith_107 : decode b_Tt_sumWith 107 = .ok (.aload_n 0, 1) := by decide +kernel
theorem d_Tt_sumWith_108 : decode b_Tt_sumWith 108 = .ok (.iload 5, 2) := by decide +kernel
theorem d_Tt_sumWith_110 : decode b_Tt_sumWith 110 = .ok (.iload 6, 2) := by decide +kernel
theorem d_Tt_sumWith_112 : decode b_Tt_sumWith 112 = .ok (.iload_n 3, 1) := by decide +kernel
theorem d_Tt_sumWith_113 : decode b_Tt_sumWith 113 = .ok (.iload 4, 2) := by decide +kernel
theorem d_Tt_sumWith_115 : decode b_Tt_sumWith 115 = .ok (.invokevirtual 105, 3) := by decide +kernel
theorem d_Tt_sumWith_118 : decode b_Tt_sumWith 118 = .ok (.iinc 6 1, 3) := by decide +kernel
theorem d_Tt_sumWith_121 : decode b_Tt_sumWith 121 = .ok (.goto (-105), 3) := by decide +kernel
theorem d_Tt_sumWith_124 : decode b_Tt_sumWith 124 = .ok (.iinc 5 (-1), 3) := by decide +kernel
theorem d_Tt_sumWith_127 : decode b_Tt_sumWith 127 = .ok (.goto (-120), 3) := by decide +kernel
theorem d_Tt_sumWith_130 : decode b_Tt_sumWith 130 = .ok (.aload_n 0, 1) := by decide +kernel
theorem d_Tt_sumWith_131 : decode b_Tt_sumWith 131 = .ok (.getfield 40, 3) := by decide +kernel
theorem d_Tt_sumWith_134 : decode b_Tt_sumWith 134 = .ok (.getfield 51, 3) := by decide +kernel
theorem d_Tt_sumWith_137 : decode b_Tt_sumWith 137 = .ok (.ifCond .le 26, 3) := by decide +kernel
theorem d_Tt_sumWith_140 : decode b_Tt_sumWith 140 = .ok (.aload_n 0, 1) := by decide +kernel
theorem d_Tt_sumWith_141 : decode b_Tt_sumWith 141 = .ok (.getfield 22, 3) := by decide +kernel
theorem d_Tt_sumWith_144 : decode b_Tt_sumWith 144 = .ok (.iload_n 1, 1) := by decide +kernel
theorem d_Tt_sumWith_145 : decode b_Tt_sumWith 145 = .ok (.aaload, 1) := by decide +kernel
theorem d_Tt_sumWith_146 : decode b_Tt_sumWith 146 = .ok (.iconst 0, 1) := by decide +kernel
theorem d_Tt_sumWith_147 : decode b_Tt_sumWith 147 = .ok (.aload_n 0, 1) := by decide +kernel
theorem d_Tt_sumWith_148 : decode b_Tt_sumWith 148 = .ok (.getfield 40, 3) := by decide +kernel
theorem d_Tt_sumWith_151 : decode b_Tt_sumWith 151 = .ok (.getfield 51, 3) := by decide +kernel
theorem d_Tt_sumWith_154 : decode b_Tt_sumWith 154 = .ok (.iconst 1, 1) := by decide +kernel
theorem d_Tt_sumWith_155 : decode b_Tt_sumWith 155 = .ok (.isub, 1) := by decide +kernel
theorem d_Tt_sumWith_156 : decode b_Tt_sumWith 156 = .ok (.invokestatic 56, 3) := by decide +kernel
theorem d_Tt_sumWith_159 : decode b_Tt_sumWith 159 = .ok (.laload, 1) := by decide +kernel
theorem d_Tt_sumWith_160 : decode b_Tt_sumWith 160 = .ok (.goto 4, 3) := by decide +kernel
theorem d_Tt_sumWith_163 : decode b_Tt_sumWith 163 = .ok (.lconst 0, 1) := by decide +kernel
theorem d_Tt_sumWith_164 : decode b_Tt_sumWith 164 = .ok (.lreturn, 1) := by decide +kernel
theorem d_Tt_addAround_0 : decode b_Tt_addAround 0 = .ok (.iload_n 1, 1) := by decide +kernel
theorem d_Tt_addAround_1 : decode b_Tt_addAround 1 = .ok (.iconst 1, 1) := by decide +kernel
theorem d_Tt_addAround_2 : decode b_Tt_addAround 2 = .ok (.iadd, 1) := by decide +kernel
theorem d_Tt_addAround_3 : decode b_Tt_addAround 3 = .ok (.istore 5, 2) := by decide +kernel
theorem d_Tt_addAround_5 : decode b_Tt_addAround 5 = .ok (.iload 5, 2) := by decide +kernel
theorem d_Tt_addAround_7 : decode b_Tt_addAround 7 = .ok (.iload_n 3, 1) := by decide +kernel
theorem d_Tt_addAround_8 : decode b_Tt_addAround 8 = .ok (.if_icmp .gt 40, 3) := by decide +kernel
theorem d_Tt_addAround_11 : decode b_Tt_addAround 11 = .ok (.aload_n 0, 1) := by decide +kernel
theorem d_Tt_addAround_12 : decode b_Tt_addAround 12 = .ok (.iload_n 1, 1) := by decide +kernel
theorem d_Tt_addAround_13 : decode b_Tt_addAround 13 = .ok (.iload_n 2, 1) := by decide +kernel
theorem d_Tt_addAround_14 : decode b_Tt_addAround 14 = .ok (.invokestatic 56, 3) := by decide +kernel
theorem d_Tt_addAround_17 : decode b_Tt_addAround 17 = .ok (.aload_n 0, 1) := by decide +kernel
theorem d_Tt_addAround_18 : decode b_Tt_addAround 18 = .ok (.getfield 13, 3) := by decide +kernel
theorem d_Tt_addAround_21 : decode b_Tt_addAround 21 = .ok (.iload_n 1, 1) := by decide +kernel
theorem d_Tt_addAround_22 : decode b_Tt_addAround 22 = .ok (.iload 5, 2) := by decide +kernel
theorem d_Tt_addAround_24 : decode b_Tt_addAround 24 = .ok (.iconst 1, 1) := by decide +kernel
theorem d_Tt_addAround_25 : decode b_Tt_addAround 25 = .ok (.isub, 1) := by decide +kernel
theorem d_Tt_addAround_26 : decode b_Tt_addAround 26 = .ok (.invokestatic 56, 3) := by decide +kernel
theorem d_Tt_addAround_29 : decode b_Tt_addAround 29 = .ok (.aload_n 0, 1) := by decide +kernel
theorem d_Tt_addAround_30 : decode b_Tt_addAround 30 = .ok (.getfield 22, 3) := by decide +kernel
theorem d_Tt_addAround_33 : decode b_Tt_addAround 33 = .ok (.iload 5, 2) := by decide +kernel
theorem d_Tt_addAround_35 : decode b_Tt_addAround 35 = .ok (.iload_n 2, 1) := by decide +kernel
theorem d_Tt_addAround_36 : decode b_Tt_addAround 36 = .ok (.invokestatic 56, 3) := by decide +kernel
theorem d_Tt_addAround_39 : decode b_Tt_addAround 39 = .ok (.invokevirtual 108, 3) := by decide +kernel
theorem d_Tt_addAround_42 : decode b_Tt_addAround 42 = .ok (.iinc 5 1, 3) := by decide +kernel
theorem d_Tt_addAround_45 : decode b_Tt_addAround 45 = .ok (.goto (-40), 3) := by decide +kernel
theorem d_Tt_addAround_48 : decode b_Tt_addAround 48 = .ok (.iload 4, 2) := by decide +kernel
theorem d_Tt_addAround_50 : decode b_Tt_addAround 50 = .ok (.iconst 1, 1) := by decide +kernel
theorem d_Tt_addAround_51 : decode b_Tt_addAround 51 = .ok (.iadd, 1) := by decide +kernel
theorem d_Tt_addAround_52 : decode b_Tt_addAround 52 = .ok (.istore 5, 2) := by decide +kernel
theorem d_Tt_addAround_54 : decode b_Tt_addAround 54 = .ok (.iload 5, 2) := by decide +kernel
theorem d_Tt_addAround_56 : decode b_Tt_addAround 56 = .ok (.iload_n 2, 1) := by decide +kernel
theorem d_Tt_addAround_57 : decode b_Tt_addAround 57 = .ok (.if_icmp .gt 40, 3) := by decide +kernel
theorem d_Tt_addAround_60 : decode b_Tt_addAround 60 = .ok (.aload_n 0, 1) := by decide +kernel
theorem d_Tt_addAround_61 : decode b_Tt_addAround 61 = .ok (.iload_n 1, 1) := by decide +kernel
theorem d_Tt_addAround_62 : decode b_Tt_addAround 62 = .ok (.iload_n 2, 1) := by decide +kernel
theorem d_Tt_addAround_63 : decode b_Tt_addAround 63 = .ok (.invokestatic 56, 3) := by decide +kernel
theorem d_Tt_addAround_66 : decode b_Tt_addAround 66 = .ok (.aload_n 0, 1) := by decide +kernel
theorem d_Tt_addAround_67 : decode b_Tt_addAround 67 = .ok (.getfield 22, 3) := by decide +kernel
theorem d_Tt_addAround_70 : decode b_Tt_addAround 70 = .ok (.iload_n 1, 1) := by decide +kernel
theorem d_Tt_addAround_71 : decode b_Tt_addAround 71 = .ok (.iload 5, 2) := by decide +kernel
theorem d_Tt_addAround_73 : decode b_Tt_addAround 73 = .ok (.iconst 1, 1) := by decide +kernel
theorem d_Tt_addAround_74 : decode b_Tt_addAround 74 = .ok (.isub, 1) := by decide +kernel
theorem d_Tt_addAround_75 : decode b_Tt_addAround 75 = .ok (.invokestatic 56, 3) := by decide +kernel
theorem d_Tt_addAround_78 : decode b_Tt_addAround 78 = .ok (.aload_n 0, 1) := by decide +kernel
theorem d_Tt_addAround_79 : decode b_Tt_addAround 79 = .ok (.getfield 13, 3) := by decide +kernel
theorem d_Tt_addAround_82 : decode b_Tt_addAround 82 = .ok (.iload 5, 2) := by decide +kernel
theorem d_Tt_addAround_84 : decode b_Tt_addAround 84 = .ok (.iload_n 2, 1) := by decide +kernel
theorem d_Tt_addAround_85 : decode b_Tt_addAround 85 = .ok (.invokestatic 56, 3) := by decide +kernel
theorem d_Tt_addAround_88 : decode b_Tt_addAround 88 = .ok (.invokevirtual 108, 3) := by decide +kernel
theorem d_Tt_addAround_91 : decode b_Tt_addAround 91 = .ok (.iinc 5 1, 3) := by decide +kernel
theorem d_Tt_addAround_94 : decode b_Tt_addAround 94 = .ok (.goto (-40), 3) := by decide +kernel
theorem d_Tt_addAround_97 : decode b_Tt_addAround 97 = .ok (.return_, 1) := by decide +kernel
theorem d_Tt_addProducts_0 : decode b_Tt_addProducts 0 = .ok (.iconst 0, 1) := by decide +kernel
theorem d_Tt_addProducts_1 : decode b_Tt_addProducts 1 = .ok (.istore 6, 2) := by decide +kernel
theorem d_Tt_addProducts_3 : decode b_Tt_addProducts 3 = .ok (.iload 6, 2) := by decide +kernel
theorem d_Tt_addProducts_5 : decode b_Tt_addProducts 5 = .ok (.aload_n 0, 1) := by decide +kernel
theorem d_Tt_addProducts_6 : decode b_Tt_addProducts 6 = .ok (.getfield 44, 3) := by decide +kernel
theorem d_Tt_addProducts_9 : decode b_Tt_addProducts 9 = .ok (.getfield 60, 3) := by decide +kernel
theorem d_Tt_addProducts_12 : decode b_Tt_addProducts 12 = .ok (.if_icmp .ge 102, 3) := by decide +kernel
theorem d_Tt_addProducts_15 : decode b_Tt_addProducts 15 = .ok (.iconst 0, 1) := by decide +kernel
theorem d_Tt_addProducts_16 : decode b_Tt_addProducts 16 = .ok (.istore 7, 2) := by decide +kernel
theorem d_Tt_addProducts_18 : decode b_Tt_addProducts 18 = .ok (.iload 7, 2) := by decide +kernel
theorem d_Tt_addProducts_20 : decode b_Tt_addProducts 20 = .ok (.aload_n 0, 1) := by decide +kernel
theorem d_Tt_addProducts_21 : decode b_Tt_addProducts 21 = .ok (.getfield 44, 3) := by decide +kernel
theorem d_Tt_addProducts_24 : decode b_Tt_addProducts 24 = .ok (.getfield 60, 3) := by decide +kernel
theorem d_Tt_addProducts_27 : decode b_Tt_addProducts 27 = .ok (.if_icmp .ge 81, 3) := by decide +kernel
theorem d_Tt_addProducts_30 : decode b_Tt_addProducts 30 = .ok (.iconst 0, 1) := by decide +kernel
theorem d_Tt_addProducts_31 : decode b_Tt_addProducts 31 = .ok (.istore 8, 2) := by decide +kernel
theorem d_Tt_addProducts_33 : decode b_Tt_addProducts 33 = .ok (.iload 8, 2) := by decide +kernel
theorem d_Tt_addProducts_35 : decode b_Tt_addProducts 35 = .ok (.aload_n 0, 1) := by decide +kernel
theorem d_Tt_addProducts_36 : decode b_Tt_addProducts 36 = .ok (.getfield 44, 3) := by decide +kernel
theorem d_Tt_addProducts_39 : decode b_Tt_addProducts 39 = .ok (.getfield 60, 3) := by decide +kernel
theorem d_Tt_addProducts_42 : decode b_Tt_addProducts 42 = .ok (.if_icmp .ge 60, 3) := by decide +kernel
theorem d_Tt_addProducts_45 : decode b_Tt_addProducts 45 = .ok (.aload_n 0, 1) := by decide +kernel
theorem d_Tt_addProducts_46 : decode b_Tt_addProducts 46 = .ok (.getfield 44, 3) := by decide +kernel
theorem d_Tt_addProducts_49 : decode b_Tt_addProducts 49 = .ok (.getfield 84, 3) := by decide +kernel
theorem d_Tt_addProducts_52 : decode b_Tt_addProducts 52 = .ok (.iload 6, 2) := by decide +kernel
theorem d_Tt_addProducts_54 : decode b_Tt_addProducts 54 = .ok (.aaload, 1) := by decide +kernel
theorem d_Tt_addProducts_55 : decode b_Tt_addProducts 55 = .ok (.iload 7, 2) := by decide +kernel
theorem d_Tt_addProducts_57 : decode b_Tt_addProducts 57 = .ok (.iload 8, 2) := by decide +kernel
theorem d_Tt_addProducts_59 : decode b_Tt_addProducts 59 = .ok (.invokestatic 88, 3) := by decide +kernel
theorem d_Tt_addProducts_62 : decode b_Tt_addProducts 62 = .ok (.iaload, 1) := by decide +kernel
theorem d_Tt_addProducts_63 : decode b_Tt_addProducts 63 = .ok (.i2l, 1) := by decide +kernel
theorem d_Tt_addProducts_64 : decode b_Tt_addProducts 64 = .ok (.lstore 9, 2) := by decide +kernel
theorem d_Tt_addProducts_66 : decode b_Tt_addProducts 66 = .ok (.aload_n 0, 1) := by decide +kernel
theorem d_Tt_addProducts_67 : decode b_Tt_addProducts 67 = .ok (.getfield 22, 3) := by decide +kernel
theorem d_Tt_addProducts_70 : decode b_Tt_addProducts 70 = .ok (.iload 6, 2) := by decide +kernel
theorem d_Tt_addProducts_72 : decode b_Tt_addProducts 72 = .ok (.aaload, 1) := by decide +kernel
theorem d_Tt_addProducts_73 : decode b_Tt_addProducts 73 = .ok (.iload_n 1, 1) := by decide +kernel
theorem d_Tt_addProducts_74 : decode b_Tt_addProducts 74 = .ok (.dup2, 1) := by decide +kernel
theorem d_Tt_addProducts_75 : decode b_Tt_addProducts 75 = .ok (.laload, 1) := by decide +kernel
theorem d_Tt_addProducts_76 : decode b_Tt_addProducts 76 = .ok (.lload 9, 2) := by decide +kernel
theorem d_Tt_addProducts_78 : decode b_Tt_addProducts 78 = .ok (.aload_n 2, 1) := by decide +kernel
theorem d_Tt_addProducts_79 : decode b_Tt_addProducts 79 = .ok (.iload 7, 2) := by decide +kernel
theorem d_Tt_addProducts_81 : decode b_Tt_addProducts 81 = .ok (.aaload, 1) := by decide +kernel
theorem d_Tt_addProducts_82 : decode b_Tt_addProducts 82 = .ok (.iload_n 3, 1) := by decide +kernel
theorem d_Tt_addProducts_83 : decode b_Tt_addProducts 83 = .ok (.laload, 1) := by decide +kernel
theorem d_Tt_addProducts_84 : decode b_Tt_addProducts 84 = .ok (.lmul, 1) := by decide +kernel
theorem d_Tt_addProducts_85 : decode b_Tt_addProducts 85 = .ok (.aload 4, 2) := by decide +kernel
theorem d_Tt_addProducts_87 : decode b_Tt_addProducts 87 = .ok (.iload 8, 2) := by decide +kernel
theorem d_Tt_addProducts_89 : decode b_Tt_addProducts 89 = .ok (.aaload, 1) := by decide +kernel
theorem d_Tt_addProducts_90 : decode b_Tt_addProducts 90 = .ok (.iload 5, 2) := by decide +kernel
theorem d_Tt_addProducts_92 : decode b_Tt_addProducts 92 = .ok (.laload, 1) := by decide +kernel
theorem d_Tt_addProducts_93 : decode b_Tt_addProducts 93 = .ok (.lmul, 1) := by decide +kernel
theorem d_Tt_addProducts_94 : decode b_Tt_addProducts 94 = .ok (.ladd, 1) := by decide +kernel
theorem d_Tt_addProducts_95 : decode b_Tt_addProducts 95 = .ok (.lastore, 1) := by decide +kernel
theorem d_Tt_addProducts_96 : decode b_Tt_addProducts 96 = .ok (.iinc 8 1, 3) := by decide +kernel
theorem d_Tt_addProducts_99 : decode b_Tt_addProducts 99 = .ok (.goto (-66), 3) := by decide +kernel
theorem d_Tt_addProducts_102 : decode b_Tt_addProducts 102 = .ok (.iinc 7 1, 3) := by decide +kernel
theorem d_Tt_addProducts_105 : decode b_Tt_addProducts 105 = .ok (.goto (-87), 3) := by decide +kernel
theorem d_Tt_addProducts_108 : decode b_Tt_addProducts 108 = .ok (.iinc 6 1, 3) := by decide +kernel
theorem d_Tt_addProducts_111 : decode b_Tt_addProducts 111 = .ok (.goto (-108), 3) := by decide +kernel
theorem d_Tt_addProducts_114 : decode b_Tt_addProducts 114 = .ok (.return_, 1) := by decide +kernel
end
section
theorem d_H_init_0 : decode b_H_init 0 = .ok (.aload_n 0, 1) := by decide +kernel
theorem d_H_init_1 : decode b_H_init 1 = .ok (.invokespecial 3, 3) := by decide +kernel
theorem d_H_init_4 : decode b_H_init 4 = .ok (.aload_n 0, 1) := by decide +kernel
theorem d_H_init_5 : decode b_H_init 5 = .ok (.new 9, 3) := by decide +kernel
theorem d_H_init_8 : decode b_H_init 8 = .ok (.dup, 1) := by decide +kernel
theorem d_H_init_9 : decode b_H_init 9 = .ok (.invokespecial 11, 3) := by decide +kernel
theorem d_H_init_12 : decode b_H_init 12 = .ok (.putfield 12, 3) := by decide +kernel
theorem d_H_init_15 : decode b_H_init 15 = .ok (.aload_n 0, 1) := by decide +kernel
theorem d_H_init_16 : decode b_H_init 16 = .ok (.new 16, 3) := by decide +kernel
theorem d_H_init_19 : decode b_H_init 19 = .ok (.dup, 1) := by decide +kernel
theorem d_H_init_20 : decode b_H_init 20 = .ok (.invokespecial 18, 3) := by decide +kernel
theorem d_H_init_23 : decode b_H_init 23 = .ok (.putfield 19, 3) := by decide +kernel
theorem d_H_init_26 : decode b_H_init 26 = .ok (.aload_n 0, 1) := by decide +kernel
theorem d_H_init_27 : decode b_H_init 27 = .ok (.new 23, 3) := by decide +kernel
theorem d_H_init_30 : decode b_H_init 30 = .ok (.dup, 1) := by decide +kernel
theorem d_H_init_31 : decode b_H_init 31 = .ok (.aload_n 0, 1) := by decide +kernel
theorem d_H_init_32 : decode b_H_init 32 = .ok (.getfield 12, 3) := by decide +kernel
theorem d_H_init_35 : decode b_H_init 35 = .ok (.aload_n 0, 1) := by decide +kernel
theorem d_H_init_36 : decode b_H_init 36 = .ok (.getfield 19, 3) := by decide +kernel
theorem d_H_init_39 : decode b_H_init 39 = .ok (.ldc 27, 2) := by decide +kernel
theorem d_H_init_41 : decode b_H_init 41 = .ok (.invokespecial 28, 3) := by decide +kernel
theorem d_H_init_44 : decode b_H_init 44 = .ok (.putfield 31, 3) := by decide +kernel
theorem d_H_init_47 : decode b_H_init 47 = .ok (.aload_n 0, 1) := by decide +kernel
theorem d_H_init_48 : decode b_H_init 48 = .ok (.new 23, 3) := by decide +kernel
theorem d_H_init_51 : decode b_H_init 51 = .ok (.dup, 1) := by decide +kernel
theorem d_H_init_52 : decode b_H_init 52 = .ok (.aload_n 0, 1) := by decide +kernel
theorem d_H_init_53 : decode b_H_init 53 = .ok (.getfield 12, 3) := by decide +kernel
theorem d_H_init_56 : decode b_H_init 56 = .ok (.aload_n 0, 1) := by decide +kernel
theorem d_H_init_57 : decode b_H_init 57 = .ok (.getfield 19, 3) := by decide +kernel
theorem d_H_init_60 : decode b_H_init 60 = .ok (.iconst 1, 1) := by decide +kernel
theorem d_H_init_61 : decode b_H_init 61 = .ok (.invokespecial 28, 3) := by decide +kernel
theorem d_H_init_64 : decode b_H_init 64 = .ok (.putfield 35, 3) := by decide +kernel
theorem d_H_init_67 : decode b_H_init 67 = .ok (.aload_n 0, 1) := by decide +kernel
theorem d_H_init_68 : decode b_H_init 68 = .ok (.new 38, 3) := by decide +kernel
theorem d_H_init_71 : decode b_H_init 71 = .ok (.dup, 1) := by decide +kernel
theorem d_H_init_72 : decode b_H_init 72 = .ok (.aload_n 0, 1) := by decide +kernel
theorem d_H_init_73 : decode b_H_init 73 = .ok (.getfield 12, 3) := by decide +kernel
theorem d_H_init_76 : decode b_H_init 76 = .ok (.aload_n 0, 1) := by decide +kernel
theorem d_H_init_77 : decode b_H_init 77 = .ok (.getfield 19, 3) := by decide +kernel
theorem d_H_init_80 : decode b_H_init 80 = .ok (.aload_n 0, 1) := by decide +kernel
theorem d_H_init_81 : decode b_H_init 81 = .ok (.getfield 31, 3) := by decide +kernel
theorem d_H_init_84 : decode b_H_init 84 = .ok (.invokespecial 40, 3) := by decide +kernel
theorem d_H_init_87 : decode b_H_init 87 = .ok (.putfield 43, 3) := by decide +kernel
theorem d_H_init_90 : decode b_H_init 90 = .ok (.aload_n 0, 1) := by decide +kernel
theorem d_H_init_91 : decode b_H_init 91 = .ok (.new 47, 3) := by decide +kernel
theorem d_H_init_94 : decode b_H_init 94 = .ok (.dup, 1) := by decide +kernel
theorem d_H_init_95 : decode b_H_init 95 = .ok (.aload_n 0, 1) := by decide +kernel
theorem d_H_init_96 : decode b_H_init 96 = .ok (.getfield 12, 3) := by decide +kernel
theorem d_H_init_99 : decode b_H_init 99 = .ok (.aload_n 0, 1) := by decide +kernel
theorem d_H_init_100 : decode b_H_init 100 = .ok (.getfield 19, 3) := by decide +kernel
theorem d_H_init_103 : decode b_H_init 103 = .ok (.aload_n 0, 1) := by decide +kernel
theorem d_H_init_104 : decode b_H_init 104 = .ok (.getfield 31, 3) := by decide +kernel
theorem d_H_init_107 : decode b_H_init 107 = .ok (.invokespecial 49, 3) := by decide +kernel
theorem d_H_init_110 : decode b_H_init 110 = .ok (.putfield 50, 3) := by decide +kernel
theorem d_H_init_113 : decode b_H_init 113 = .ok (.aload_n 0, 1) := by decide +kernel
theorem d_H_init_114 : decode b_H_init 114 = .ok (.new 54, 3) := by decide +kernel
theorem d_H_init_117 : decode b_H_init 117 = .ok (.dup, 1) := by decide +kernel
theorem d_H_init_118 : decode b_H_init 118 = .ok (.invokespecial 56, 3) := by decide +kernel
theorem d_H_init_121 : decode b_H_init 121 = .ok (.putfield 57, 3) := by decide +kernel
theorem d_H_init_124 : decode b_H_init 124 = .ok (.aload_n 0, 1) := by decide +kernel
theorem d_H_init_125 : decode b_H_init 125 = .ok (.new 61, 3) := by decide +kernel
theorem d_H_init_128 : decode b_H_init 128 = .ok (.dup, 1) := by decide +kernel
theorem d_H_init_129 : decode b_H_init 129 = .ok (.aload_n 0, 1) := by decide +kernel
theorem d_H_init_130 : decode b_H_init 130 = .ok (.getfield 12, 3) := by decide +kernel
theorem d_H_init_133 : decode b_H_init 133 = .ok (.aload_n 0, 1) := by decide +kernel
theorem d_H_init_134 : decode b_H_init 134 = .ok (.getfield 57, 3) := by decide +kernel
theorem d_H_init_137 : decode b_H_init 137 = .ok (.invokespecial 63, 3) := by decide +kernel
theorem d_H_init_140 : decode b_H_init 140 = .ok (.putfield 66, 3) := by decide +kernel
theorem d_H_init_143 : decode b_H_init 143 = .ok (.return_, 1) := by decide +kernel
theorem d_H_state_0 : decode b_H_state 0 = .ok (.aload_n 0, 1) := by decide +kernel
theorem d_H_state_1 : decode b_H_state 1 = .ok (.getfield 19, 3) := by decide +kernel
theorem d_H_state_4 : decode b_H_state 4 = .ok (.getfield 70, 3) := by decide +kernel
theorem d_H_state_7 : decode b_H_state 7 = .ok (.iconst 4, 1) := by decide +kernel
theorem d_H_state_8 : decode b_H_state 8 = .ok (.if_icmp .lt 6, 3) := by decide +kernel
theorem d_H_state_11 : decode b_H_state 11 = .ok (.bipush (-4), 2) := by decide +kernel
theorem d_H_state_13 : decode b_H_state 13 = .ok (.ireturn, 1) := by decide +kernel
theorem d_H_state_14 : decode b_H_state 14 = .ok (.aload_n 0, 1) := by decide +kernel
theorem d_H_state_15 : decode b_H_state 15 = .ok (.invokevirtual 74, 3) := by decide +kernel
theorem d_H_state_18 : decode b_H_state 18 = .ok (.aload_n 0, 1) := by decide +kernel
theorem d_H_state_19 : decode b_H_state 19 = .ok (.getfield 19, 3) := by decide +kernel
theorem d_H_state_22 : decode b_H_state 22 = .ok (.invokevirtual 77, 3) := by decide +kernel
theorem d_H_state_25 : decode b_H_state 25 = .ok (.ireturn, 1) := by decide +kernel
theorem d_H_forgetWays_0 : decode b_H_forgetWays 0 = .ok (.aload_n 0, 1) := by decide +kernel
theorem d_H_forgetWays_1 : decode b_H_forgetWays 1 = .ok (.getfield 31, 3) := by decide +kernel
theorem d_H_forgetWays_4 : decode b_H_forgetWays 4 = .ok (.iconst 0, 1) := by decide +kernel
theorem d_H_forgetWays_5 : decode b_H_forgetWays 5 = .ok (.putfield 198, 3) := by decide +kernel
theorem d_H_forgetWays_8 : decode b_H_forgetWays 8 = .ok (.aload_n 0, 1) := by decide +kernel
theorem d_H_forgetWays_9 : decode b_H_forgetWays 9 = .ok (.getfield 35, 3) := by decide +kernel
theorem d_H_forgetWays_12 : decode b_H_forgetWays 12 = .ok (.iconst 0, 1) := by decide +kernel
theorem d_H_forgetWays_13 : decode b_H_forgetWays 13 = .ok (.putfield 198, 3) := by decide +kernel
theorem d_H_forgetWays_16 : decode b_H_forgetWays 16 = .ok (.aload_n 0, 1) := by decide +kernel
theorem d_H_forgetWays_17 : decode b_H_forgetWays 17 = .ok (.getfield 43, 3) := by decide +kernel
theorem d_H_forgetWays_20 : decode b_H_forgetWays 20 = .ok (.iconst 0, 1) := by decide +kernel
theorem d_H_forgetWays_21 : decode b_H_forgetWays 21 = .ok (.putfield 199, 3) := by decide +kernel
theorem d_H_forgetWays_24 : decode b_H_forgetWays 24 = .ok (.aload_n 0, 1) := by decide +kernel
theorem d_H_forgetWays_25 : decode b_H_forgetWays 25 = .ok (.getfield 50, 3) := by decide +kernel
theorem d_H_forgetWays_28 : decode b_H_forgetWays 28 = .ok (.iconst 0, 1) := by decide +kernel
theorem d_H_forgetWays_29 : decode b_H_forgetWays 29 = .ok (.putfield 176, 3) := by decide +kernel
theorem d_H_forgetWays_32 : decode b_H_forgetWays 32 = .ok (.return_, 1) := by decide +kernel
theorem d_H_weight_0 : decode b_H_weight 0 = .ok (.aload_n 0, 1) := by decide +kernel
theorem d_H_weight_1 : decode b_H_weight 1 = .ok (.getfield 19, 3) := by decide +kernel
theorem d_H_weight_4 : decode b_H_weight 4 = .ok (.iload_n 1, 1) := by decide +kernel
theorem d_H_weight_5 : decode b_H_weight 5 = .ok (.invokevirtual 81, 3) := by decide +kernel
theorem d_H_weight_8 : decode b_H_weight 8 = .ok (.ifCond .eq 13, 3) := by decide +kernel
theorem d_H_weight_11 : decode b_H_weight 11 = .ok (.iload_n 2, 1) := by decide +kernel
theorem d_H_weight_12 : decode b_H_weight 12 = .ok (.ifCond .lt 9, 3) := by decide +kernel
theorem d_H_weight_15 : decode b_H_weight 15 = .ok (.iload_n 2, 1) := by decide +kernel
theorem d_H_weight_16 : decode b_H_weight 16 = .ok (.bipush 9, 2) := by decide +kernel
theorem d_H_weight_18 : decode b_H_weight 18 = .ok (.if_icmp .lt 5, 3) := by decide +kernel
theorem d_H_weight_21 : decode b_H_weight 21 = .ok (.iconst (-1), 1) := by decide +kernel
theorem d_H_weight_22 : decode b_H_weight 22 = .ok (.ireturn, 1) := by decide +kernel
theorem d_H_weight_23 : decode b_H_weight 23 = .ok (.iload_n 3, 1) := by decide +kernel
theorem d_H_weight_24 : decode b_H_weight 24 = .ok (.invokestatic 85, 3) := by decide +kernel
theorem d_H_weight_27 : decode b_H_weight 27 = .ok (.ifCond .ne 6, 3) := by decide +kernel
theorem d_H_weight_30 : decode b_H_weight 30 = .ok (.bipush (-2), 2) := by decide +kernel
theorem d_H_weight_32 : decode b_H_weight 32 = .ok (.ireturn, 1) := by decide +kernel
theorem d_H_weight_33 : decode b_H_weight 33 = .ok (.aload_n 0, 1) := by decide +kernel
theorem d_H_weight_34 : decode b_H_weight 34 = .ok (.invokevirtual 74, 3) := by decide +kernel
theorem d_H_weight_37 : decode b_H_weight 37 = .ok (.aload_n 0, 1) := by decide +kernel
theorem d_H_weight_38 : decode b_H_weight 38 = .ok (.getfield 19, 3) := by decide +kernel
theorem d_H_weight_41 : decode b_H_weight 41 = .ok (.getfield 88, 3) := by decide +kernel
theorem d_H_weight_44 : decode b_H_weight 44 = .ok (.iload_n 1, 1) := by decide +kernel
theorem d_H_weight_45 : decode b_H_weight 45 = .ok (.aaload, 1) := by decide +kernel
theorem d_H_weight_46 : decode b_H_weight 46 = .ok (.iload_n 2, 1) := by decide +kernel
theorem d_H_weight_47 : decode b_H_weight 47 = .ok (.iaload, 1) := by decide +kernel
theorem d_H_weight_48 : decode b_H_weight 48 = .ok (.istore 4, 2) := by decide +kernel
theorem d_H_weight_50 : decode b_H_weight 50 = .ok (.aload_n 0, 1) := by decide +kernel
theorem d_H_weight_51 : decode b_H_weight 51 = .ok (.getfield 19, 3) := by decide +kernel
theorem d_H_weight_54 : decode b_H_weight 54 = .ok (.getfield 88, 3) := by decide +kernel
theorem d_H_weight_57 : decode b_H_weight 57 = .ok (.iload_n 1, 1) := by decide +kernel
theorem d_H_weight_58 : decode b_H_weight 58 = .ok (.aaload, 1) := by decide +kernel
theorem d_H_weight_59 : decode b_H_weight 59 = .ok (.iload_n 2, 1) := by decide +kernel
theorem d_H_weight_60 : decode b_H_weight 60 = .ok (.iload_n 3, 1) := by decide +kernel
theorem d_H_weight_61 : decode b_H_weight 61 = .ok (.iastore, 1) := by decide +kernel
theorem d_H_weight_62 : decode b_H_weight 62 = .ok (.iload 4, 2) := by decide +kernel
theorem d_H_weight_64 : decode b_H_weight 64 = .ok (.ireturn, 1) := by decide +kernel
theorem d_H_isWeight_0 : decode b_H_isWeight 0 = .ok (.iload_n 0, 1) := by decide +kernel
theorem d_H_isWeight_1 : decode b_H_isWeight 1 = .ok (.ifCond .lt 12, 3) := by decide +kernel
theorem d_H_isWeight_4 : decode b_H_isWeight 4 = .ok (.iload_n 0, 1) := by decide +kernel
theorem d_H_isWeight_5 : decode b_H_isWeight 5 = .ok (.iconst 4, 1) := by decide +kernel
theorem d_H_isWeight_6 : decode b_H_isWeight 6 = .ok (.if_icmp .gt 7, 3) := by decide +kernel
theorem d_H_isWeight_9 : decode b_H_isWeight 9 = .ok (.iconst 1, 1) := by decide +kernel
theorem d_H_isWeight_10 : decode b_H_isWeight 10 = .ok (.goto 4, 3) := by decide +kernel
theorem d_H_isWeight_13 : decode b_H_isWeight 13 = .ok (.iconst 0, 1) := by decide +kernel
theorem d_H_isWeight_14 : decode b_H_isWeight 14 = .ok (.ireturn, 1) := by decide +kernel
theorem d_H_move_0 : decode b_H_move 0 = .ok (.aload_n 0, 1) := by decide +kernel
theorem d_H_move_1 : decode b_H_move 1 = .ok (.getfield 19, 3) := by decide +kernel
theorem d_H_move_4 : decode b_H_move 4 = .ok (.iload_n 1, 1) := by decide +kernel
theorem d_H_move_5 : decode b_H_move 5 = .ok (.invokevirtual 81, 3) := by decide +kernel
theorem d_H_move_8 : decode b_H_move 8 = .ok (.ifCond .eq 14, 3) := by decide +kernel
theorem d_H_move_11 : decode b_H_move 11 = .ok (.aload_n 0, 1) := by decide +kernel
theorem d_H_move_12 : decode b_H_move 12 = .ok (.getfield 19, 3) := by decide +kernel
theorem d_H_move_15 : decode b_H_move 15 = .ok (.iload_n 2, 1) := by decide +kernel
theorem d_H_move_16 : decode b_H_move 16 = .ok (.invokevirtual 81, 3) := by decide +kernel
theorem d_H_move_19 : decode b_H_move 19 = .ok (.ifCond .ne 5, 3) := by decide +kernel
theorem d_H_move_22 : decode b_H_move 22 = .ok (.iconst (-1), 1) := by decide +kernel
theorem d_H_move_23 : decode b_H_move 23 = .ok (.ireturn, 1) := by decide +kernel
theorem d_H_move_24 : decode b_H_move 24 = .ok (.iload_n 3, 1) := by decide +kernel
theorem d_H_move_25 : decode b_H_move 25 = .ok (.invokestatic 85, 3) := by decide +kernel
theorem d_H_move_28 : decode b_H_move 28 = .ok (.ifCond .ne 6, 3) := by decide +kernel
theorem d_H_move_31 : decode b_H_move 31 = .ok (.bipush (-2), 2) := by decide +kernel
theorem d_H_move_33 : decode b_H_move 33 = .ok (.ireturn, 1) := by decide +kernel
theorem d_H_move_34 : decode b_H_move 34 = .ok (.aload_n 0, 1) := by decide +kernel
theorem d_H_move_35 : decode b_H_move 35 = .ok (.invokevirtual 74, 3) := by decide +kernel
theorem d_H_move_38 : decode b_H_move 38 = .ok (.aload_n 0, 1) := by decide +kernel
theorem d_H_move_39 : decode b_H_move 39 = .ok (.getfield 19, 3) := by decide +kernel
theorem d_H_move_42 : decode b_H_move 42 = .ok (.getfield 92, 3) := by decide +kernel
theorem d_H_move_45 : decode b_H_move 45 = .ok (.iload_n 1, 1) := by decide +kernel
theorem d_H_move_46 : decode b_H_move 46 = .ok (.aaload, 1) := by decide +kernel
theorem d_H_move_47 : decode b_H_move 47 = .ok (.iload_n 2, 1) := by decide +kernel
theorem d_H_move_48 : decode b_H_move 48 = .ok (.iaload, 1) := by decide +kernel
theorem d_H_move_49 : decode b_H_move 49 = .ok (.istore 4, 2) := by decide +kernel
theorem d_H_move_51 : decode b_H_move 51 = .ok (.aload_n 0, 1) := by decide +kernel
theorem d_H_move_52 : decode b_H_move 52 = .ok (.getfield 19, 3) := by decide +kernel
theorem d_H_move_55 : decode b_H_move 55 = .ok (.getfield 92, 3) := by decide +kernel
theorem d_H_move_58 : decode b_H_move 58 = .ok (.iload_n 1, 1) := by decide +kernel
theorem d_H_move_59 : decode b_H_move 59 = .ok (.aaload, 1) := by decide +kernel
theorem d_H_move_60 : decode b_H_move 60 = .ok (.iload_n 2, 1) := by decide +kernel
theorem d_H_move_61 : decode b_H_move 61 = .ok (.iload_n 3, 1) := by decide +kernel
theorem d_H_move_62 : decode b_H_move 62 = .ok (.iastore, 1) := by decide +kernel
theorem d_H_move_63 : decode b_H_move 63 = .ok (.iload 4, 2) := by decide +kernel
theorem d_H_move_65 : decode b_H_move 65 = .ok (.ireturn, 1) := by decide +kernel
theorem d_H_kind_0 : decode b_H_kind 0 = .ok (.aload_n 0, 1) := by decide +kernel
theorem d_H_kind_1 : decode b_H_kind 1 = .ok (.getfield 57, 3) := by decide +kernel
theorem d_H_kind_4 : decode b_H_kind 4 = .ok (.getfield 95, 3) := by decide +kernel
theorem d_H_kind_7 : decode b_H_kind 7 = .ok (.iconst 4, 1) := by decide +kernel
theorem d_H_kind_8 : decode b_H_kind 8 = .ok (.if_icmp .lt 6, 3) := by decide +kernel
theorem d_H_kind_11 : decode b_H_kind 11 = .ok (.bipush (-4), 2) := by decide +kernel
theorem d_H_kind_13 : decode b_H_kind 13 = .ok (.ireturn, 1) := by decide +kernel
theorem d_H_kind_14 : decode b_H_kind 14 = .ok (.aload_n 0, 1) := by decide +kernel
theorem d_H_kind_15 : decode b_H_kind 15 = .ok (.invokevirtual 96, 3) := by decide +kernel
theorem d_H_kind_18 : decode b_H_kind 18 = .ok (.aload_n 0, 1) := by decide +kernel
theorem d_H_kind_19 : decode b_H_kind 19 = .ok (.getfield 57, 3) := by decide +kernel
theorem d_H_kind_22 : decode b_H_kind 22 = .ok (.dup, 1) := by decide +kernel
theorem d_H_kind_23 : decode b_H_kind 23 = .ok (.getfield 95, 3) := by decide +kernel
theorem d_H_kind_26 : decode b_H_kind 26 = .ok (.iconst 1, 1) := by decide +kernel
theorem d_H_kind_27 : decode b_H_kind 27 = .ok (.iadd, 1) := by decide +kernel
theorem d_H_kind_28 : decode b_H_kind 28 = .ok (.putfield 95, 3) := by decide +kernel
theorem d_H_kind_31 : decode b_H_kind 31 = .ok (.aload_n 0, 1) := by decide +kernel
theorem d_H_kind_32 : decode b_H_kind 32 = .ok (.getfield 57, 3) := by decide +kernel
theorem d_H_kind_35 : decode b_H_kind 35 = .ok (.getfield 95, 3) := by decide +kernel
theorem d_H_kind_38 : decode b_H_kind 38 = .ok (.iconst 1, 1) := by decide +kernel
theorem d_H_kind_39 : decode b_H_kind 39 = .ok (.isub, 1) := by decide +kernel
theorem d_H_kind_40 : decode b_H_kind 40 = .ok (.ireturn, 1) := by decide +kernel
theorem d_H_forgetTrees_0 : decode b_H_forgetTrees 0 = .ok (.aload_n 0, 1) := by decide +kernel
theorem d_H_forgetTrees_1 : decode b_H_forgetTrees 1 = .ok (.getfield 66, 3) := by decide +kernel
theorem d_H_forgetTrees_4 : decode b_H_forgetTrees 4 = .ok (.iconst 0, 1) := by decide +kernel
theorem d_H_forgetTrees_5 : decode b_H_forgetTrees 5 = .ok (.putfield 200, 3) := by decide +kernel
theorem d_H_forgetTrees_8 : decode b_H_forgetTrees 8 = .ok (.return_, 1) := by decide +kernel
theorem d_H_rule_0 : decode b_H_rule 0 = .ok (.aload_n 0, 1) := by decide +kernel
theorem d_H_rule_1 : decode b_H_rule 1 = .ok (.getfield 57, 3) := by decide +kernel
theorem d_H_rule_4 : decode b_H_rule 4 = .ok (.iload_n 1, 1) := by decide +kernel
theorem d_H_rule_5 : decode b_H_rule 5 = .ok (.invokevirtual 99, 3) := by decide +kernel
theorem d_H_rule_8 : decode b_H_rule 8 = .ok (.ifCond .eq 25, 3) := by decide +kernel
theorem d_H_rule_11 : decode b_H_rule 11 = .ok (.aload_n 0, 1) := by decide +kernel
theorem d_H_rule_12 : decode b_H_rule 12 = .ok (.getfield 57, 3) := by decide +kernel
theorem d_H_rule_15 : decode b_H_rule 15 = .ok (.iload_n 2, 1) := by decide +kernel
theorem d_H_rule_16 : decode b_H_rule 16 = .ok (.invokevirtual 99, 3) := by decide +kernel
theorem d_H_rule_19 : decode b_H_rule 19 = .ok (.ifCond .eq 14, 3) := by decide +kernel
theorem d_H_rule_22 : decode b_H_rule 22 = .ok (.aload_n 0, 1) := by decide +kernel
theorem d_H_rule_23 : decode b_H_rule 23 = .ok (.getfield 57, 3) := by decide +kernel
theorem d_H_rule_26 : decode b_H_rule 26 = .ok (.iload_n 3, 1) := by decide +kernel
theorem d_H_rule_27 : decode b_H_rule 27 = .ok (.invokevirtual 99, 3) := by decide +kernel
theorem d_H_rule_30 : decode b_H_rule 30 = .ok (.ifCond .ne 5, 3) := by decide +kernel
theorem d_H_rule_33 : decode b_H_rule 33 = .ok (.iconst (-1), 1) := by decide +kernel
theorem d_H_rule_34 : decode b_H_rule 34 = .ok (.ireturn, 1) := by decide +kernel
theorem d_H_rule_35 : decode b_H_rule 35 = .ok (.iload 4, 2) := by decide +kernel
theorem d_H_rule_37 : decode b_H_rule 37 = .ok (.invokestatic 85, 3) := by decide +kernel
theorem d_H_rule_40 : decode b_H_rule 40 = .ok (.ifCond .ne 6, 3) := by decide +kernel
theorem d_H_rule_43 : decode b_H_rule 43 = .ok (.bipush (-2), 2) := by decide +kernel
theorem d_H_rule_45 : decode b_H_rule 45 = .ok (.ireturn, 1) := by decide +kernel
theorem d_H_rule_46 : decode b_H_rule 46 = .ok (.aload_n 0, 1) := by decide +kernel
theorem d_H_rule_47 : decode b_H_rule 47 = .ok (.invokevirtual 96, 3) := by decide +kernel
theorem d_H_rule_50 : decode b_H_rule 50 = .ok (.iload_n 2, 1) := by decide +kernel
theorem d_H_rule_51 : decode b_H_rule 51 = .ok (.iload_n 3, 1) := by decide +kernel
theorem d_H_rule_52 : decode b_H_rule 52 = .ok (.invokestatic 100, 3) := by decide +kernel
theorem d_H_rule_55 : decode b_H_rule 55 = .ok (.istore 5, 2) := by decide +kernel
theorem d_H_rule_57 : decode b_H_rule 57 = .ok (.aload_n 0, 1) := by decide +kernel
theorem d_H_rule_58 : decode b_H_rule 58 = .ok (.getfield 57, 3) := by decide +kernel
theorem d_H_rule_61 : decode b_H_rule 61 = .ok (.getfield 104, 3) := by decide +kernel
theorem d_H_rule_64 : decode b_H_rule 64 = .ok (.iload_n 1, 1) := by decide +kernel
theorem d_H_rule_65 : decode b_H_rule 65 = .ok (.aaload, 1) := by decide +kernel
theorem d_H_rule_66 : decode b_H_rule 66 = .ok (.iload 5, 2) := by decide +kernel
theorem d_H_rule_68 : decode b_H_rule 68 = .ok (.iaload, 1) := by decide +kernel
theorem d_H_rule_69 : decode b_H_rule 69 = .ok (.istore 6, 2) := by decide +kernel
theorem d_H_rule_71 : decode b_H_rule 71 = .ok (.aload_n 0, 1) := by decide +kernel
theorem d_H_rule_72 : decode b_H_rule 72 = .ok (.getfield 57, 3) := by decide +kernel
theorem d_H_rule_75 : decode b_H_rule 75 = .ok (.getfield 104, 3) := by decide +kernel
theorem d_H_rule_78 : decode b_H_rule 78 = .ok (.iload_n 1, 1) := by decide +kernel
theorem d_H_rule_79 : decode b_H_rule 79 = .ok (.aaload, 1) := by decide +kernel
theorem d_H_rule_80 : decode b_H_rule 80 = .ok (.iload 5, 2) := by decide +kernel
theorem d_H_rule_82 : decode b_H_rule 82 = .ok (.iload 4, 2) := by decide +kernel
theorem d_H_rule_84 : decode b_H_rule 84 = .ok (.iastore, 1) := by decide +kernel
theorem d_H_rule_85 : decode b_H_rule 85 = .ok (.iload 6, 2) := by decide +kernel
theorem d_H_rule_87 : decode b_H_rule 87 = .ok (.ireturn, 1) := by decide +kernel
theorem d_H_leaf_0 : decode b_H_leaf 0 = .ok (.aload_n 0, 1) := by decide +kernel
theorem d_H_leaf_1 : decode b_H_leaf 1 = .ok (.getfield 57, 3) := by decide +kernel
theorem d_H_leaf_4 : decode b_H_leaf 4 = .ok (.iload_n 1, 1) := by decide +kernel
theorem d_H_leaf_5 : decode b_H_leaf 5 = .ok (.invokevirtual 99, 3) := by decide +kernel
theorem d_H_leaf_8 : decode b_H_leaf 8 = .ok (.ifCond .eq 12, 3) := by decide +kernel
theorem d_H_leaf_11 : decode b_H_leaf 11 = .ok (.iload_n 2, 1) := by decide +kernel
theorem d_H_leaf_12 : decode b_H_leaf 12 = .ok (.ifCond .lt 8, 3) := by decide +kernel
theorem d_H_leaf_15 : decode b_H_leaf 15 = .ok (.iload_n 2, 1) := by decide +kernel
theorem d_H_leaf_16 : decode b_H_leaf 16 = .ok (.iconst 4, 1) := by decide +kernel
theorem d_H_leaf_17 : decode b_H_leaf 17 = .ok (.if_icmp .lt 5, 3) := by decide +kernel
theorem d_H_leaf_20 : decode b_H_leaf 20 = .ok (.iconst (-1), 1) := by decide +kernel
theorem d_H_leaf_21 : decode b_H_leaf 21 = .ok (.ireturn, 1) := by decide +kernel
theorem d_H_leaf_22 : decode b_H_leaf 22 = .ok (.iload_n 3, 1) := by decide +kernel
theorem d_H_leaf_23 : decode b_H_leaf 23 = .ok (.invokestatic 85, 3) := by decide +kernel
theorem d_H_leaf_26 : decode b_H_leaf 26 = .ok (.ifCond .ne 6, 3) := by decide +kernel
theorem d_H_leaf_29 : decode b_H_leaf 29 = .ok (.bipush (-2), 2) := by decide +kernel
theorem d_H_leaf_31 : decode b_H_leaf 31 = .ok (.ireturn, 1) := by decide +kernel
theorem d_H_leaf_32 : decode b_H_leaf 32 = .ok (.aload_n 0, 1) := by decide +kernel
theorem d_H_leaf_33 : decode b_H_leaf 33 = .ok (.invokevirtual 96, 3) := by decide +kernel
theorem d_H_leaf_36 : decode b_H_leaf 36 = .ok (.aload_n 0, 1) := by decide +kernel
theorem d_H_leaf_37 : decode b_H_leaf 37 = .ok (.getfield 57, 3) := by decide +kernel
theorem d_H_leaf_40 : decode b_H_leaf 40 = .ok (.getfield 107, 3) := by decide +kernel
theorem d_H_leaf_43 : decode b_H_leaf 43 = .ok (.iload_n 1, 1) := by decide +kernel
theorem d_H_leaf_44 : decode b_H_leaf 44 = .ok (.aaload, 1) := by decide +kernel
theorem d_H_leaf_45 : decode b_H_leaf 45 = .ok (.iload_n 2, 1) := by decide +kernel
theorem d_H_leaf_46 : decode b_H_leaf 46 = .ok (.iaload, 1) := by decide +kernel
theorem d_H_leaf_47 : decode b_H_leaf 47 = .ok (.istore 4, 2) := by decide +kernel
theorem d_H_leaf_49 : decode b_H_leaf 49 = .ok (.aload_n 0, 1) := by decide +kernel
theorem d_H_leaf_50 : decode b_H_leaf 50 = .ok (.getfield 57, 3) := by decide +kernel
theorem d_H_leaf_53 : decode b_H_leaf 53 = .ok (.getfield 107, 3) := by decide +kernel
theorem d_H_leaf_56 : decode b_H_leaf 56 = .ok (.iload_n 1, 1) := by decide +kernel
theorem d_H_leaf_57 : decode b_H_leaf 57 = .ok (.aaload, 1) := by decide +kernel
theorem d_H_leaf_58 : decode b_H_leaf 58 = .ok (.iload_n 2, 1) := by decide +kernel
theorem d_H_leaf_59 : decode b_H_leaf 59 = .ok (.iload_n 3, 1) := by decide +kernel
theorem d_H_leaf_60 : decode b_H_leaf 60 = .ok (.iastore, 1) := by decide +kernel
theorem d_H_leaf_61 : decode b_H_leaf 61 = .ok (.iload 4, 2) := by decide +kernel
theorem d_H_leaf_63 : decode b_H_leaf 63 = .ok (.ireturn, 1) := by decide +kernel
theorem d_H_sign_0 : decode b_H_sign 0 = .ok (.iload_n 1, 1) := by decide +kernel
theorem d_H_sign_1 : decode b_H_sign 1 = .ok (.iconst (-1), 1) := by decide +kernel
theorem d_H_sign_2 : decode b_H_sign 2 = .ok (.if_icmp .lt 8, 3) := by decide +kernel
theorem d_H_sign_5 : decode b_H_sign 5 = .ok (.iload_n 1, 1) := by decide +kernel
theorem d_H_sign_6 : decode b_H_sign 6 = .ok (.iconst 4, 1) := by decide +kernel
theorem d_H_sign_7 : decode b_H_sign 7 = .ok (.if_icmp .lt 6, 3) := by decide +kernel
theorem d_H_sign_10 : decode b_H_sign 10 = .ok (.bipush (-2), 2) := by decide +kernel
theorem d_H_sign_12 : decode b_H_sign 12 = .ok (.ireturn, 1) := by decide +kernel
theorem d_H_sign_13 : decode b_H_sign 13 = .ok (.aload_n 0, 1) := by decide +kernel
theorem d_H_sign_14 : decode b_H_sign 14 = .ok (.getfield 12, 3) := by decide +kernel
theorem d_H_sign_17 : decode b_H_sign 17 = .ok (.getfield 110, 3) := by decide +kernel
theorem d_H_sign_20 : decode b_H_sign 20 = .ok (.bipush 6, 2) := by decide +kernel
theorem d_H_sign_22 : decode b_H_sign 22 = .ok (.if_icmp .lt 6, 3) := by decide +kernel
theorem d_H_sign_25 : decode b_H_sign 25 = .ok (.bipush (-4), 2) := by decide +kernel
theorem d_H_sign_27 : decode b_H_sign 27 = .ok (.ireturn, 1) := by decide +kernel
theorem d_H_sign_28 : decode b_H_sign 28 = .ok (.aload_n 0, 1) := by decide +kernel
theorem d_H_sign_29 : decode b_H_sign 29 = .ok (.invokevirtual 74, 3) := by decide +kernel
theorem d_H_sign_32 : decode b_H_sign 32 = .ok (.aload_n 0, 1) := by decide +kernel
theorem d_H_sign_33 : decode b_H_sign 33 = .ok (.invokevirtual 96, 3) := by decide +kernel
theorem d_H_sign_36 : decode b_H_sign 36 = .ok (.aload_n 0, 1) := by decide +kernel
theorem d_H_sign_37 : decode b_H_sign 37 = .ok (.getfield 12, 3) := by decide +kernel
theorem d_H_sign_40 : decode b_H_sign 40 = .ok (.iload_n 1, 1) := by decide +kernel
theorem d_H_sign_41 : decode b_H_sign 41 = .ok (.invokevirtual 113, 3) := by decide +kernel
theorem d_H_sign_44 : decode b_H_sign 44 = .ok (.aload_n 0, 1) := by decide +kernel
theorem d_H_sign_45 : decode b_H_sign 45 = .ok (.getfield 12, 3) := by decide +kernel
theorem d_H_sign_48 : decode b_H_sign 48 = .ok (.getfield 110, 3) := by decide +kernel
theorem d_H_sign_51 : decode b_H_sign 51 = .ok (.ireturn, 1) := by decide +kernel
theorem d_H_clear_0 : decode b_H_clear 0 = .ok (.aload_n 0, 1) := by decide +kernel
theorem d_H_clear_1 : decode b_H_clear 1 = .ok (.invokevirtual 74, 3) := by decide +kernel
theorem d_H_clear_4 : decode b_H_clear 4 = .ok (.aload_n 0, 1) := by decide +kernel
theorem d_H_clear_5 : decode b_H_clear 5 = .ok (.invokevirtual 96, 3) := by decide +kernel
theorem d_H_clear_8 : decode b_H_clear 8 = .ok (.aload_n 0, 1) := by decide +kernel
theorem d_H_clear_9 : decode b_H_clear 9 = .ok (.getfield 12, 3) := by decide +kernel
theorem d_H_clear_12 : decode b_H_clear 12 = .ok (.getfield 110, 3) := by decide +kernel
theorem d_H_clear_15 : decode b_H_clear 15 = .ok (.istore_n 1, 1) := by decide +kernel
theorem d_H_clear_16 : decode b_H_clear 16 = .ok (.aload_n 0, 1) := by decide +kernel
theorem d_H_clear_17 : decode b_H_clear 17 = .ok (.getfield 12, 3) := by decide +kernel
theorem d_H_clear_20 : decode b_H_clear 20 = .ok (.iconst 0, 1) := by decide +kernel
theorem d_H_clear_21 : decode b_H_clear 21 = .ok (.putfield 110, 3) := by decide +kernel
theorem d_H_clear_24 : decode b_H_clear 24 = .ok (.iload_n 1, 1) := by decide +kernel
theorem d_H_clear_25 : decode b_H_clear 25 = .ok (.ireturn, 1) := by decide +kernel
theorem d_H_hold_0 : decode b_H_hold 0 = .ok (.aload_n 0, 1) := by decide +kernel
theorem d_H_hold_1 : decode b_H_hold 1 = .ok (.getfield 12, 3) := by decide +kernel
theorem d_H_hold_4 : decode b_H_hold 4 = .ok (.iload_n 1, 1) := by decide +kernel
theorem d_H_hold_5 : decode b_H_hold 5 = .ok (.invokevirtual 117, 3) := by decide +kernel
theorem d_H_hold_8 : decode b_H_hold 8 = .ok (.ifCond .eq 19, 3) := by decide +kernel
theorem d_H_hold_11 : decode b_H_hold 11 = .ok (.iload_n 2, 1) := by decide +kernel
theorem d_H_hold_12 : decode b_H_hold 12 = .ok (.iconst (-1), 1) := by decide +kernel
theorem d_H_hold_13 : decode b_H_hold 13 = .ok (.if_icmp .eq 16, 3) := by decide +kernel
theorem d_H_hold_16 : decode b_H_hold 16 = .ok (.aload_n 0, 1) := by decide +kernel
theorem d_H_hold_17 : decode b_H_hold 17 = .ok (.getfield 19, 3) := by decide +kernel
theorem d_H_hold_20 : decode b_H_hold 20 = .ok (.iload_n 2, 1) := by decide +kernel
theorem d_H_hold_21 : decode b_H_hold 21 = .ok (.invokevirtual 81, 3) := by decide +kernel
theorem d_H_hold_24 : decode b_H_hold 24 = .ok (.ifCond .ne 5, 3) := by decide +kernel
theorem d_H_hold_27 : decode b_H_hold 27 = .ok (.iconst (-1), 1) := by decide +kernel
theorem d_H_hold_28 : decode b_H_hold 28 = .ok (.ireturn, 1) := by decide +kernel
theorem d_H_hold_29 : decode b_H_hold 29 = .ok (.aload_n 0, 1) := by decide +kernel
theorem d_H_hold_30 : decode b_H_hold 30 = .ok (.invokevirtual 74, 3) := by decide +kernel
theorem d_H_hold_33 : decode b_H_hold 33 = .ok (.aload_n 0, 1) := by decide +kernel
theorem d_H_hold_34 : decode b_H_hold 34 = .ok (.getfield 12, 3) := by decide +kernel
theorem d_H_hold_37 : decode b_H_hold 37 = .ok (.getfield 118, 3) := by decide +kernel
theorem d_H_hold_40 : decode b_H_hold 40 = .ok (.iload_n 1, 1) := by decide +kernel
theorem d_H_hold_41 : decode b_H_hold 41 = .ok (.iaload, 1) := by decide +kernel
theorem d_H_hold_42 : decode b_H_hold 42 = .ok (.istore_n 3, 1) := by decide +kernel
theorem d_H_hold_43 : decode b_H_hold 43 = .ok (.aload_n 0, 1) := by decide +kernel
theorem d_H_hold_44 : decode b_H_hold 44 = .ok (.getfield 12, 3) := by decide +kernel
theorem d_H_hold_47 : decode b_H_hold 47 = .ok (.getfield 118, 3) := by decide +kernel
theorem d_H_hold_50 : decode b_H_hold 50 = .ok (.iload_n 1, 1) := by decide +kernel
theorem d_H_hold_51 : decode b_H_hold 51 = .ok (.iload_n 2, 1) := by decide +kernel
theorem d_H_hold_52 : decode b_H_hold 52 = .ok (.iastore, 1) := by decide +kernel
theorem d_H_hold_53 : decode b_H_hold 53 = .ok (.iload_n 3, 1) := by decide +kernel
theorem d_H_hold_54 : decode b_H_hold 54 = .ok (.ireturn, 1) := by decide +kernel
theorem d_H_total_0 : decode b_H_total 0 = .ok (.aload_n 0, 1) := by decide +kernel
theorem d_H_total_1 : decode b_H_total 1 = .ok (.getfield 31, 3) := by decide +kernel
theorem d_H_total_4 : decode b_H_total 4 = .ok (.invokevirtual 122, 3) := by decide +kernel
theorem d_H_total_7 : decode b_H_total 7 = .ok (.lreturn, 1) := by decide +kernel
theorem d_H_ways_0 : decode b_H_ways 0 = .ok (.aload_n 0, 1) := by decide +kernel
theorem d_H_ways_1 : decode b_H_ways 1 = .ok (.getfield 35, 3) := by decide +kernel
theorem d_H_ways_4 : decode b_H_ways 4 = .ok (.invokevirtual 122, 3) := by decide +kernel
theorem d_H_ways_7 : decode b_H_ways 7 = .ok (.l2i, 1) := by decide +kernel
theorem d_H_ways_8 : decode b_H_ways 8 = .ok (.ireturn, 1) := by decide +kernel
theorem d_H_share_0 : decode b_H_share 0 = .ok (.aload_n 0, 1) := by decide +kernel
theorem d_H_share_1 : decode b_H_share 1 = .ok (.getfield 12, 3) := by decide +kernel
theorem d_H_share_4 : decode b_H_share 4 = .ok (.iload_n 1, 1) := by decide +kernel
theorem d_H_share_5 : decode b_H_share 5 = .ok (.invokevirtual 117, 3) := by decide +kernel
theorem d_H_share_8 : decode b_H_share 8 = .ok (.ifCond .eq 14, 3) := by decide +kernel
theorem d_H_share_11 : decode b_H_share 11 = .ok (.aload_n 0, 1) := by decide +kernel
theorem d_H_share_12 : decode b_H_share 12 = .ok (.getfield 19, 3) := by decide +kernel
theorem d_H_share_15 : decode b_H_share 15 = .ok (.iload_n 2, 1) := by decide +kernel
theorem d_H_share_16 : decode b_H_share 16 = .ok (.invokevirtual 81, 3) := by decide +kernel
theorem d_H_share_19 : decode b_H_share 19 = .ok (.ifCond .ne 7, 3) := by decide +kernel
theorem d_H_share_22 : decode b_H_share 22 = .ok (.ldc2_w 126, 3) := by decide +kernel
theorem d_H_share_25 : decode b_H_share 25 = .ok (.lreturn, 1) := by decide +kernel
theorem d_H_share_26 : decode b_H_share 26 = .ok (.iload_n 3, 1) := by decide +kernel
theorem d_H_share_27 : decode b_H_share 27 = .ok (.invokestatic 128, 3) := by decide +kernel
theorem d_H_share_30 : decode b_H_share 30 = .ok (.ifCond .ne 7, 3) := by decide +kernel
theorem d_H_share_33 : decode b_H_share 33 = .ok (.ldc2_w 131, 3) := by decide +kernel
theorem d_H_share_36 : decode b_H_share 36 = .ok (.lreturn, 1) := by decide +kernel
theorem d_H_share_37 : decode b_H_share 37 = .ok (.aload_n 0, 1) := by decide +kernel
theorem d_H_share_38 : decode b_H_share 38 = .ok (.getfield 31, 3) := by decide +kernel
theorem d_H_share_41 : decode b_H_share 41 = .ok (.iload_n 1, 1) := by decide +kernel
theorem d_H_share_42 : decode b_H_share 42 = .ok (.iload_n 2, 1) := by decide +kernel
theorem d_H_share_43 : decode b_H_share 43 = .ok (.invokevirtual 133, 3) := by decide +kernel
theorem d_H_share_46 : decode b_H_share 46 = .ok (.aload_n 0, 1) := by decide +kernel
theorem d_H_share_47 : decode b_H_share 47 = .ok (.getfield 31, 3) := by decide +kernel
theorem d_H_share_50 : decode b_H_share 50 = .ok (.invokevirtual 122, 3) := by decide +kernel
theorem d_H_share_53 : decode b_H_share 53 = .ok (.iload_n 3, 1) := by decide +kernel
theorem d_H_share_54 : decode b_H_share 54 = .ok (.invokestatic 137, 3) := by decide +kernel
theorem d_H_share_57 : decode b_H_share 57 = .ok (.lreturn, 1) := by decide +kernel
theorem d_H_isPart_0 : decode b_H_isPart 0 = .ok (.iload_n 0, 1) := by decide +kernel
theorem d_H_isPart_1 : decode b_H_isPart 1 = .ok (.ifCond .eq 8, 3) := by decide +kernel
theorem d_H_isPart_4 : decode b_H_isPart 4 = .ok (.iload_n 0, 1) := by decide +kernel
theorem d_H_isPart_5 : decode b_H_isPart 5 = .ok (.iconst 1, 1) := by decide +kernel
theorem d_H_isPart_6 : decode b_H_isPart 6 = .ok (.if_icmp .ne 7, 3) := by decide +kernel
theorem d_H_isPart_9 : decode b_H_isPart 9 = .ok (.iconst 1, 1) := by decide +kernel
theorem d_H_isPart_10 : decode b_H_isPart 10 = .ok (.goto 4, 3) := by decide +kernel
theorem d_H_isPart_13 : decode b_H_isPart 13 = .ok (.iconst 0, 1) := by decide +kernel
theorem d_H_isPart_14 : decode b_H_isPart 14 = .ok (.ireturn, 1) := by decide +kernel
theorem d_H_lowestTerms_0 : decode b_H_lowestTerms 0 = .ok (.lload_n 2, 1) := by decide +kernel
theorem d_H_lowestTerms_1 : decode b_H_lowestTerms 1 = .ok (.lconst 0, 1) := by decide +kernel
theorem d_H_lowestTerms_2 : decode b_H_lowestTerms 2 = .ok (.lcmp, 1) := by decide +kernel
theorem d_H_lowestTerms_3 : decode b_H_lowestTerms 3 = .ok (.ifCond .gt 7, 3) := by decide +kernel
theorem d_H_lowestTerms_6 : decode b_H_lowestTerms 6 = .ok (.ldc2_w 160, 3) := by decide +kernel
theorem d_H_lowestTerms_9 : decode b_H_lowestTerms 9 = .ok (.lreturn, 1) := by decide +kernel
theorem d_H_lowestTerms_10 : decode b_H_lowestTerms 10 = .ok (.lload_n 0, 1) := by decide +kernel
theorem d_H_lowestTerms_11 : decode b_H_lowestTerms 11 = .ok (.lload_n 2, 1) := by decide +kernel
theorem d_H_lowestTerms_12 : decode b_H_lowestTerms 12 = .ok (.invokestatic 201, 3) := by decide +kernel
theorem d_H_lowestTerms_15 : decode b_H_lowestTerms 15 = .ok (.lstore 5, 2) := by decide +kernel
theorem d_H_lowestTerms_17 : decode b_H_lowestTerms 17 = .ok (.lload 5, 2) := by decide +kernel
theorem d_H_lowestTerms_19 : decode b_H_lowestTerms 19 = .ok (.lconst 0, 1) := by decide +kernel
theorem d_H_lowestTerms_20 : decode b_H_lowestTerms 20 = .ok (.lcmp, 1) := by decide +kernel
theorem d_H_lowestTerms_21 : decode b_H_lowestTerms 21 = .ok (.ifCond .gt 7, 3) := by decide +kernel
theorem d_H_lowestTerms_24 : decode b_H_lowestTerms 24 = .ok (.ldc2_w 160, 3) := by decide +kernel
theorem d_H_lowestTerms_27 : decode b_H_lowestTerms 27 = .ok (.lreturn, 1) := by decide +kernel
theorem d_H_lowestTerms_28 : decode b_H_lowestTerms 28 = .ok (.iload 4, 2) := by decide +kernel
theorem d_H_lowestTerms_30 : decode b_H_lowestTerms 30 = .ok (.ifCond .ne 10, 3) := by decide +kernel
theorem d_H_lowestTerms_33 : decode b_H_lowestTerms 33 = .ok (.lload_n 0, 1) := by decide +kernel
theorem d_H_lowestTerms_34 : decode b_H_lowestTerms 34 = .ok (.lload 5, 2) := by decide +kernel
theorem d_H_lowestTerms_36 : decode b_H_lowestTerms 36 = .ok (.ldiv, 1) := by decide +kernel
theorem d_H_lowestTerms_37 : decode b_H_lowestTerms 37 = .ok (.goto 7, 3) := by decide +kernel
theorem d_H_lowestTerms_40 : decode b_H_lowestTerms 40 = .ok (.lload_n 2, 1) := by decide +kernel
theorem d_H_lowestTerms_41 : decode b_H_lowestTerms 41 = .ok (.lload 5, 2) := by decide +kernel
theorem d_H_lowestTerms_43 : decode b_H_lowestTerms 43 = .ok (.ldiv, 1) := by decide +kernel
theorem d_H_lowestTerms_44 : decode b_H_lowestTerms 44 = .ok (.lreturn, 1) := by decide +kernel
theorem d_H_commonDivisor_0 : decode b_H_commonDivisor 0 = .ok (.lload_n 0, 1) := by decide +kernel
theorem d_H_commonDivisor_1 : decode b_H_commonDivisor 1 = .ok (.lstore 4, 2) := by decide +kernel
theorem d_H_commonDivisor_3 : decode b_H_commonDivisor 3 = .ok (.lload_n 2, 1) := by decide +kernel
theorem d_H_commonDivisor_4 : decode b_H_commonDivisor 4 = .ok (.lstore 6, 2) := by decide +kernel
theorem d_H_commonDivisor_6 : decode b_H_commonDivisor 6 = .ok (.iconst 0, 1) := by decide +kernel
theorem d_H_commonDivisor_7 : decode b_H_commonDivisor 7 = .ok (.istore 8, 2) := by decide +kernel
theorem d_H_commonDivisor_9 : decode b_H_commonDivisor 9 = .ok (.iload 8, 2) := by decide +kernel
theorem d_H_commonDivisor_11 : decode b_H_commonDivisor 11 = .ok (.bipush 100, 2) := by decide +kernel
theorem d_H_commonDivisor_13 : decode b_H_commonDivisor 13 = .ok (.if_icmp .ge 31, 3) := by decide +kernel
theorem d_H_commonDivisor_16 : decode b_H_commonDivisor 16 = .ok (.lload 6, 2) := by decide +kernel
theorem d_H_commonDivisor_18 : decode b_H_commonDivisor 18 = .ok (.lconst 0, 1) := by decide +kernel
theorem d_H_commonDivisor_19 : decode b_H_commonDivisor 19 = .ok (.lcmp, 1) := by decide +kernel
theorem d_H_commonDivisor_20 : decode b_H_commonDivisor 20 = .ok (.ifCond .eq 24, 3) := by decide +kernel
theorem d_H_commonDivisor_23 : decode b_H_commonDivisor 23 = .ok (.lload 4, 2) := by decide +kernel
theorem d_H_commonDivisor_25 : decode b_H_commonDivisor 25 = .ok (.lload 6, 2) := by decide +kernel
theorem d_H_commonDivisor_27 : decode b_H_commonDivisor 27 = .ok (.lrem, 1) := by decide +kernel
theorem d_H_commonDivisor_28 : decode b_H_commonDivisor 28 = .ok (.lstore 9, 2) := by decide +kernel
theorem d_H_commonDivisor_30 : decode b_H_commonDivisor 30 = .ok (.lload 6, 2) := by decide +kernel
theorem d_H_commonDivisor_32 : decode b_H_commonDivisor 32 = .ok (.lstore 4, 2) := by decide +kernel
theorem d_H_commonDivisor_34 : decode b_H_commonDivisor 34 = .ok (.lload 9, 2) := by decide +kernel
theorem d_H_commonDivisor_36 : decode b_H_commonDivisor 36 = .ok (.lstore 6, 2) := by decide +kernel
theorem d_H_commonDivisor_38 : decode b_H_commonDivisor 38 = .ok (.iinc 8 1, 3) := by decide +kernel
theorem d_H_commonDivisor_41 : decode b_H_commonDivisor 41 = .ok (.goto (-32), 3) := by decide +kernel
theorem d_H_commonDivisor_44 : decode b_H_commonDivisor 44 = .ok (.lload 4, 2) := by decide +kernel
theorem d_H_commonDivisor_46 : decode b_H_commonDivisor 46 = .ok (.lreturn, 1) := by decide +kernel
theorem d_H_begin_0 : decode b_H_begin 0 = .ok (.aload_n 0, 1) := by decide +kernel
theorem d_H_begin_1 : decode b_H_begin 1 = .ok (.getfield 12, 3) := by decide +kernel
theorem d_H_begin_4 : decode b_H_begin 4 = .ok (.iload_n 1, 1) := by decide +kernel
theorem d_H_begin_5 : decode b_H_begin 5 = .ok (.invokevirtual 117, 3) := by decide +kernel
theorem d_H_begin_8 : decode b_H_begin 8 = .ok (.ifCond .eq 14, 3) := by decide +kernel
theorem d_H_begin_11 : decode b_H_begin 11 = .ok (.aload_n 0, 1) := by decide +kernel
theorem d_H_begin_12 : decode b_H_begin 12 = .ok (.getfield 19, 3) := by decide +kernel
theorem d_H_begin_15 : decode b_H_begin 15 = .ok (.iload_n 2, 1) := by decide +kernel
theorem d_H_begin_16 : decode b_H_begin 16 = .ok (.invokevirtual 81, 3) := by decide +kernel
theorem d_H_begin_19 : decode b_H_begin 19 = .ok (.ifCond .ne 7, 3) := by decide +kernel
theorem d_H_begin_22 : decode b_H_begin 22 = .ok (.ldc2_w 126, 3) := by decide +kernel
theorem d_H_begin_25 : decode b_H_begin 25 = .ok (.lreturn, 1) := by decide +kernel
theorem d_H_begin_26 : decode b_H_begin 26 = .ok (.iload_n 3, 1) := by decide +kernel
theorem d_H_begin_27 : decode b_H_begin 27 = .ok (.invokestatic 128, 3) := by decide +kernel
theorem d_H_begin_30 : decode b_H_begin 30 = .ok (.ifCond .ne 7, 3) := by decide +kernel
theorem d_H_begin_33 : decode b_H_begin 33 = .ok (.ldc2_w 131, 3) := by decide +kernel
theorem d_H_begin_36 : decode b_H_begin 36 = .ok (.lreturn, 1) := by decide +kernel
theorem d_H_begin_37 : decode b_H_begin 37 = .ok (.aload_n 0, 1) := by decide +kernel
theorem d_H_begin_38 : decode b_H_begin 38 = .ok (.getfield 31, 3) := by decide +kernel
theorem d_H_begin_41 : decode b_H_begin 41 = .ok (.iload_n 1, 1) := by decide +kernel
theorem d_H_begin_42 : decode b_H_begin 42 = .ok (.iload_n 2, 1) := by decide +kernel
theorem d_H_begin_43 : decode b_H_begin 43 = .ok (.invokevirtual 141, 3) := by decide +kernel
theorem d_H_begin_46 : decode b_H_begin 46 = .ok (.aload_n 0, 1) := by decide +kernel
theorem d_H_begin_47 : decode b_H_begin 47 = .ok (.getfield 31, 3) := by decide +kernel
theorem d_H_begin_50 : decode b_H_begin 50 = .ok (.invokevirtual 122, 3) := by decide +kernel
theorem d_H_begin_53 : decode b_H_begin 53 = .ok (.iload_n 3, 1) := by decide +kernel
theorem d_H_begin_54 : decode b_H_begin 54 = .ok (.invokestatic 137, 3) := by decide +kernel
theorem d_H_begin_57 : decode b_H_begin 57 = .ok (.lreturn, 1) := by decide +kernel
theorem d_H_pair_0 : decode b_H_pair 0 = .ok (.aload_n 0, 1) := by decide +kernel
theorem d_H_pair_1 : decode b_H_pair 1 = .ok (.getfield 12, 3) := by decide +kernel
theorem d_H_pair_4 : decode b_H_pair 4 = .ok (.iload_n 1, 1) := by decide +kernel
theorem d_H_pair_5 : decode b_H_pair 5 = .ok (.invokevirtual 117, 3) := by decide +kernel
theorem d_H_pair_8 : decode b_H_pair 8 = .ok (.ifCond .eq 38, 3) := by decide +kernel
theorem d_H_pair_11 : decode b_H_pair 11 = .ok (.iload_n 1, 1) := by decide +kernel
theorem d_H_pair_12 : decode b_H_pair 12 = .ok (.aload_n 0, 1) := by decide +kernel
theorem d_H_pair_13 : decode b_H_pair 13 = .ok (.getfield 12, 3) := by decide +kernel
theorem d_H_pair_16 : decode b_H_pair 16 = .ok (.getfield 110, 3) := by decide +kernel
theorem d_H_pair_19 : decode b_H_pair 19 = .ok (.iconst 1, 1) := by decide +kernel
theorem d_H_pair_20 : decode b_H_pair 20 = .ok (.isub, 1) := by decide +kernel
theorem d_H_pair_21 : decode b_H_pair 21 = .ok (.if_icmp .ge 25, 3) := by decide +kernel
theorem d_H_pair_24 : decode b_H_pair 24 = .ok (.aload_n 0, 1) := by decide +kernel
theorem d_H_pair_25 : decode b_H_pair 25 = .ok (.getfield 19, 3) := by decide +kernel
theorem d_H_pair_28 : decode b_H_pair 28 = .ok (.iload_n 2, 1) := by decide +kernel
theorem d_H_pair_29 : decode b_H_pair 29 = .ok (.invokevirtual 81, 3) := by decide +kernel
theorem d_H_pair_32 : decode b_H_pair 32 = .ok (.ifCond .eq 14, 3) := by decide +kernel
theorem d_H_pair_35 : decode b_H_pair 35 = .ok (.aload_n 0, 1) := by decide +kernel
theorem d_H_pair_36 : decode b_H_pair 36 = .ok (.getfield 19, 3) := by decide +kernel
theorem d_H_pair_39 : decode b_H_pair 39 = .ok (.iload_n 3, 1) := by decide +kernel
theorem d_H_pair_40 : decode b_H_pair 40 = .ok (.invokevirtual 81, 3) := by decide +kernel
theorem d_H_pair_43 : decode b_H_pair 43 = .ok (.ifCond .ne 7, 3) := by decide +kernel
theorem d_H_pair_46 : decode b_H_pair 46 = .ok (.ldc2_w 126, 3) := by decide +kernel
theorem d_H_pair_49 : decode b_H_pair 49 = .ok (.lreturn, 1) := by decide +kernel
theorem d_H_pair_50 : decode b_H_pair 50 = .ok (.iload 4, 2) := by decide +kernel
theorem d_H_pair_52 : decode b_H_pair 52 = .ok (.invokestatic 128, 3) := by decide +kernel
theorem d_H_pair_55 : decode b_H_pair 55 = .ok (.ifCond .ne 7, 3) := by decide +kernel
theorem d_H_pair_58 : decode b_H_pair 58 = .ok (.ldc2_w 131, 3) := by decide +kernel
theorem d_H_pair_61 : decode b_H_pair 61 = .ok (.lreturn, 1) := by decide +kernel
theorem d_H_pair_62 : decode b_H_pair 62 = .ok (.aload_n 0, 1) := by decide +kernel
theorem d_H_pair_63 : decode b_H_pair 63 = .ok (.getfield 31, 3) := by decide +kernel
theorem d_H_pair_66 : decode b_H_pair 66 = .ok (.iload_n 1, 1) := by decide +kernel
theorem d_H_pair_67 : decode b_H_pair 67 = .ok (.iconst 1, 1) := by decide +kernel
theorem d_H_pair_68 : decode b_H_pair 68 = .ok (.iadd, 1) := by decide +kernel
theorem d_H_pair_69 : decode b_H_pair 69 = .ok (.iload_n 2, 1) := by decide +kernel
theorem d_H_pair_70 : decode b_H_pair 70 = .ok (.iload_n 3, 1) := by decide +kernel
theorem d_H_pair_71 : decode b_H_pair 71 = .ok (.invokevirtual 144, 3) := by decide +kernel
theorem d_H_pair_74 : decode b_H_pair 74 = .ok (.aload_n 0, 1) := by decide +kernel
theorem d_H_pair_75 : decode b_H_pair 75 = .ok (.getfield 31, 3) := by decide +kernel
theorem d_H_pair_78 : decode b_H_pair 78 = .ok (.invokevirtual 122, 3) := by decide +kernel
theorem d_H_pair_81 : decode b_H_pair 81 = .ok (.iload 4, 2) := by decide +kernel
theorem d_H_pair_83 : decode b_H_pair 83 = .ok (.invokestatic 137, 3) := by decide +kernel
theorem d_H_pair_86 : decode b_H_pair 86 = .ok (.lreturn, 1) := by decide +kernel
theorem d_H_top_0 : decode b_H_top 0 = .ok (.aload_n 0, 1) := by decide +kernel
theorem d_H_top_1 : decode b_H_top 1 = .ok (.getfield 12, 3) := by decide +kernel
theorem d_H_top_4 : decode b_H_top 4 = .ok (.iload_n 1, 1) := by decide +kernel
theorem d_H_top_5 : decode b_H_top 5 = .ok (.invokevirtual 117, 3) := by decide +kernel
theorem d_H_top_8 : decode b_H_top 8 = .ok (.ifCond .ne 5, 3) := by decide +kernel
theorem d_H_top_11 : decode b_H_top 11 = .ok (.iconst (-1), 1) := by decide +kernel
theorem d_H_top_12 : decode b_H_top 12 = .ok (.ireturn, 1) := by decide +kernel
theorem d_H_top_13 : decode b_H_top 13 = .ok (.aload_n 0, 1) := by decide +kernel
theorem d_H_top_14 : decode b_H_top 14 = .ok (.getfield 31, 3) := by decide +kernel
theorem d_H_top_17 : decode b_H_top 17 = .ok (.invokevirtual 122, 3) := by decide +kernel
theorem d_H_top_20 : decode b_H_top 20 = .ok (.lconst 0, 1) := by decide +kernel
theorem d_H_top_21 : decode b_H_top 21 = .ok (.lcmp, 1) := by decide +kernel
theorem d_H_top_22 : decode b_H_top 22 = .ok (.ifCond .gt 6, 3) := by decide +kernel
theorem d_H_top_25 : decode b_H_top 25 = .ok (.bipush (-3), 2) := by decide +kernel
theorem d_H_top_27 : decode b_H_top 27 = .ok (.ireturn, 1) := by decide +kernel
theorem d_H_top_28 : decode b_H_top 28 = .ok (.iconst 0, 1) := by decide +kernel
theorem d_H_top_29 : decode b_H_top 29 = .ok (.istore_n 2, 1) := by decide +kernel
theorem d_H_top_30 : decode b_H_top 30 = .ok (.iconst 1, 1) := by decide +kernel
theorem d_H_top_31 : decode b_H_top 31 = .ok (.istore_n 3, 1) := by decide +kernel
theorem d_H_top_32 : decode b_H_top 32 = .ok (.iload_n 3, 1) := by decide +kernel
theorem d_H_top_33 : decode b_H_top 33 = .ok (.aload_n 0, 1) := by decide +kernel
theorem d_H_top_34 : decode b_H_top 34 = .ok (.getfield 19, 3) := by decide +kernel
theorem d_H_top_37 : decode b_H_top 37 = .ok (.getfield 70, 3) := by decide +kernel
theorem d_H_top_40 : decode b_H_top 40 = .ok (.if_icmp .ge 33, 3) := by decide +kernel
theorem d_H_top_43 : decode b_H_top 43 = .ok (.aload_n 0, 1) := by decide +kernel
theorem d_H_top_44 : decode b_H_top 44 = .ok (.getfield 31, 3) := by decide +kernel
theorem d_H_top_47 : decode b_H_top 47 = .ok (.iload_n 1, 1) := by decide +kernel
theorem d_H_top_48 : decode b_H_top 48 = .ok (.iload_n 3, 1) := by decide +kernel
theorem d_H_top_49 : decode b_H_top 49 = .ok (.invokevirtual 133, 3) := by decide +kernel
theorem d_H_top_52 : decode b_H_top 52 = .ok (.aload_n 0, 1) := by decide +kernel
theorem d_H_top_53 : decode b_H_top 53 = .ok (.getfield 31, 3) := by decide +kernel
theorem d_H_top_56 : decode b_H_top 56 = .ok (.iload_n 1, 1) := by decide +kernel
theorem d_H_top_57 : decode b_H_top 57 = .ok (.iload_n 2, 1) := by decide +kernel
theorem d_H_top_58 : decode b_H_top 58 = .ok (.invokevirtual 133, 3) := by decide +kernel
theorem d_H_top_61 : decode b_H_top 61 = .ok (.lcmp, 1) := by decide +kernel
theorem d_H_top_62 : decode b_H_top 62 = .ok (.ifCond .le 5, 3) := by decide +kernel
theorem d_H_top_65 : decode b_H_top 65 = .ok (.iload_n 3, 1) := by decide +kernel
theorem d_H_top_66 : decode b_H_top 66 = .ok (.istore_n 2, 1) := by decide +kernel
theorem d_H_top_67 : decode b_H_top 67 = .ok (.iinc 3 1, 3) := by decide +kernel
theorem d_H_top_70 : decode b_H_top 70 = .ok (.goto (-38), 3) := by decide +kernel
theorem d_H_top_73 : decode b_H_top 73 = .ok (.iload_n 2, 1) := by decide +kernel
theorem d_H_top_74 : decode b_H_top 74 = .ok (.ireturn, 1) := by decide +kernel
theorem d_H_best_0 : decode b_H_best 0 = .ok (.iload_n 1, 1) := by decide +kernel
theorem d_H_best_1 : decode b_H_best 1 = .ok (.ifCond .lt 9, 3) := by decide +kernel
theorem d_H_best_4 : decode b_H_best 4 = .ok (.iload_n 1, 1) := by decide +kernel
theorem d_H_best_5 : decode b_H_best 5 = .ok (.bipush 10, 2) := by decide +kernel
theorem d_H_best_7 : decode b_H_best 7 = .ok (.if_icmp .lt 7, 3) := by decide +kernel
theorem d_H_best_10 : decode b_H_best 10 = .ok (.ldc2_w 131, 3) := by decide +kernel
theorem d_H_best_13 : decode b_H_best 13 = .ok (.lreturn, 1) := by decide +kernel
theorem d_H_best_14 : decode b_H_best 14 = .ok (.aload_n 0, 1) := by decide +kernel
theorem d_H_best_15 : decode b_H_best 15 = .ok (.getfield 43, 3) := by decide +kernel
theorem d_H_best_18 : decode b_H_best 18 = .ok (.invokevirtual 148, 3) := by decide +kernel
theorem d_H_best_21 : decode b_H_best 21 = .ok (.astore_n 2, 1) := by decide +kernel
theorem d_H_best_22 : decode b_H_best 22 = .ok (.iload_n 1, 1) := by decide +kernel
theorem d_H_best_23 : decode b_H_best 23 = .ok (.aload_n 2, 1) := by decide +kernel
theorem d_H_best_24 : decode b_H_best 24 = .ok (.getfield 152, 3) := by decide +kernel
theorem d_H_best_27 : decode b_H_best 27 = .ok (.if_icmp .ge 12, 3) := by decide +kernel
theorem d_H_best_30 : decode b_H_best 30 = .ok (.aload_n 2, 1) := by decide +kernel
theorem d_H_best_31 : decode b_H_best 31 = .ok (.getfield 157, 3) := by decide +kernel
theorem d_H_best_34 : decode b_H_best 34 = .ok (.iload_n 1, 1) := by decide +kernel
theorem d_H_best_35 : decode b_H_best 35 = .ok (.laload, 1) := by decide +kernel
theorem d_H_best_36 : decode b_H_best 36 = .ok (.goto 6, 3) := by decide +kernel
theorem d_H_best_39 : decode b_H_best 39 = .ok (.ldc2_w 160, 3) := by decide +kernel
theorem d_H_best_42 : decode b_H_best 42 = .ok (.lreturn, 1) := by decide +kernel
theorem d_H_bestAt_0 : decode b_H_bestAt 0 = .ok (.iload_n 1, 1) := by decide +kernel
theorem d_H_bestAt_1 : decode b_H_bestAt 1 = .ok (.ifCond .lt 9, 3) := by decide +kernel
theorem d_H_bestAt_4 : decode b_H_bestAt 4 = .ok (.iload_n 1, 1) := by decide +kernel
theorem d_H_bestAt_5 : decode b_H_bestAt 5 = .ok (.bipush 10, 2) := by decide +kernel
theorem d_H_bestAt_7 : decode b_H_bestAt 7 = .ok (.if_icmp .lt 6, 3) := by decide +kernel
theorem d_H_bestAt_10 : decode b_H_bestAt 10 = .ok (.bipush (-2), 2) := by decide +kernel
theorem d_H_bestAt_12 : decode b_H_bestAt 12 = .ok (.ireturn, 1) := by decide +kernel
theorem d_H_bestAt_13 : decode b_H_bestAt 13 = .ok (.aload_n 0, 1) := by decide +kernel
theorem d_H_bestAt_14 : decode b_H_bestAt 14 = .ok (.getfield 43, 3) := by decide +kernel
theorem d_H_bestAt_17 : decode b_H_bestAt 17 = .ok (.invokevirtual 148, 3) := by decide +kernel
theorem d_H_bestAt_20 : decode b_H_bestAt 20 = .ok (.astore_n 3, 1) := by decide +kernel
theorem d_H_bestAt_21 : decode b_H_bestAt 21 = .ok (.iload_n 1, 1) := by decide +kernel
theorem d_H_bestAt_22 : decode b_H_bestAt 22 = .ok (.aload_n 3, 1) := by decide +kernel
theorem d_H_bestAt_23 : decode b_H_bestAt 23 = .ok (.getfield 152, 3) := by decide +kernel
theorem d_H_bestAt_26 : decode b_H_bestAt 26 = .ok (.if_icmp .lt 6, 3) := by decide +kernel
theorem d_H_bestAt_29 : decode b_H_bestAt 29 = .ok (.bipush (-3), 2) := by decide +kernel
theorem d_H_bestAt_31 : decode b_H_bestAt 31 = .ok (.ireturn, 1) := by decide +kernel
theorem d_H_bestAt_32 : decode b_H_bestAt 32 = .ok (.aload_n 0, 1) := by decide +kernel
theorem d_H_bestAt_33 : decode b_H_bestAt 33 = .ok (.getfield 12, 3) := by decide +kernel
theorem d_H_bestAt_36 : decode b_H_bestAt 36 = .ok (.iload_n 2, 1) := by decide +kernel
theorem d_H_bestAt_37 : decode b_H_bestAt 37 = .ok (.invokevirtual 117, 3) := by decide +kernel
theorem d_H_bestAt_40 : decode b_H_bestAt 40 = .ok (.ifCond .eq 20, 3) := by decide +kernel
theorem d_H_bestAt_43 : decode b_H_bestAt 43 = .ok (.aload_n 0, 1) := by decide +kernel
theorem d_H_bestAt_44 : decode b_H_bestAt 44 = .ok (.getfield 12, 3) := by decide +kernel
theorem d_H_bestAt_47 : decode b_H_bestAt 47 = .ok (.aload_n 3, 1) := by decide +kernel
theorem d_H_bestAt_48 : decode b_H_bestAt 48 = .ok (.getfield 162, 3) := by decide +kernel
theorem d_H_bestAt_51 : decode b_H_bestAt 51 = .ok (.iload_n 1, 1) := by decide +kernel
theorem d_H_bestAt_52 : decode b_H_bestAt 52 = .ok (.iaload, 1) := by decide +kernel
theorem d_H_bestAt_53 : decode b_H_bestAt 53 = .ok (.iload_n 2, 1) := by decide +kernel
theorem d_H_bestAt_54 : decode b_H_bestAt 54 = .ok (.invokevirtual 165, 3) := by decide +kernel
theorem d_H_bestAt_57 : decode b_H_bestAt 57 = .ok (.goto 4, 3) := by decide +kernel
theorem d_H_bestAt_60 : decode b_H_bestAt 60 = .ok (.iconst (-1), 1) := by decide +kernel
theorem d_H_bestAt_61 : decode b_H_bestAt 61 = .ok (.ireturn, 1) := by decide +kernel
theorem d_H_drawn_0 : decode b_H_drawn 0 = .ok (.aload_n 0, 1) := by decide +kernel
theorem d_H_drawn_1 : decode b_H_drawn 1 = .ok (.getfield 31, 3) := by decide +kernel
theorem d_H_drawn_4 : decode b_H_drawn 4 = .ok (.invokevirtual 122, 3) := by decide +kernel
theorem d_H_drawn_7 : decode b_H_drawn 7 = .ok (.lstore_n 2, 1) := by decide +kernel
theorem d_H_drawn_8 : decode b_H_drawn 8 = .ok (.lload_n 2, 1) := by decide +kernel
theorem d_H_drawn_9 : decode b_H_drawn 9 = .ok (.lconst 0, 1) := by decide +kernel
theorem d_H_drawn_10 : decode b_H_drawn 10 = .ok (.lcmp, 1) := by decide +kernel
theorem d_H_drawn_11 : decode b_H_drawn 11 = .ok (.ifCond .gt 7, 3) := by decide +kernel
theorem d_H_drawn_14 : decode b_H_drawn 14 = .ok (.ldc2_w 160, 3) := by decide +kernel
theorem d_H_drawn_17 : decode b_H_drawn 17 = .ok (.lreturn, 1) := by decide +kernel
theorem d_H_drawn_18 : decode b_H_drawn 18 = .ok (.aload_n 0, 1) := by decide +kernel
theorem d_H_drawn_19 : decode b_H_drawn 19 = .ok (.getfield 50, 3) := by decide +kernel
theorem d_H_drawn_22 : decode b_H_drawn 22 = .ok (.iload_n 1, 1) := by decide +kernel
theorem d_H_drawn_23 : decode b_H_drawn 23 = .ok (.invokestatic 168, 3) := by decide +kernel
theorem d_H_drawn_26 : decode b_H_drawn 26 = .ok (.lload_n 2, 1) := by decide +kernel
theorem d_H_drawn_27 : decode b_H_drawn 27 = .ok (.lrem, 1) := by decide +kernel
theorem d_H_drawn_28 : decode b_H_drawn 28 = .ok (.invokevirtual 172, 3) := by decide +kernel
theorem d_H_drawn_31 : decode b_H_drawn 31 = .ok (.lreturn, 1) := by decide +kernel
theorem d_H_drawnAt_0 : decode b_H_drawnAt 0 = .ok (.aload_n 0, 1) := by decide +kernel
theorem d_H_drawnAt_1 : decode b_H_drawnAt 1 = .ok (.getfield 50, 3) := by decide +kernel
theorem d_H_drawnAt_4 : decode b_H_drawnAt 4 = .ok (.getfield 176, 3) := by decide +kernel
theorem d_H_drawnAt_7 : decode b_H_drawnAt 7 = .ok (.ifCond .ne 6, 3) := by decide +kernel
theorem d_H_drawnAt_10 : decode b_H_drawnAt 10 = .ok (.bipush (-3), 2) := by decide +kernel
theorem d_H_drawnAt_12 : decode b_H_drawnAt 12 = .ok (.ireturn, 1) := by decide +kernel
theorem d_H_drawnAt_13 : decode b_H_drawnAt 13 = .ok (.aload_n 0, 1) := by decide +kernel
theorem d_H_drawnAt_14 : decode b_H_drawnAt 14 = .ok (.getfield 12, 3) := by decide +kernel
theorem d_H_drawnAt_17 : decode b_H_drawnAt 17 = .ok (.iload_n 1, 1) := by decide +kernel
theorem d_H_drawnAt_18 : decode b_H_drawnAt 18 = .ok (.invokevirtual 117, 3) := by decide +kernel
theorem d_H_drawnAt_21 : decode b_H_drawnAt 21 = .ok (.ifCond .eq 21, 3) := by decide +kernel
theorem d_H_drawnAt_24 : decode b_H_drawnAt 24 = .ok (.aload_n 0, 1) := by decide +kernel
theorem d_H_drawnAt_25 : decode b_H_drawnAt 25 = .ok (.getfield 12, 3) := by decide +kernel
theorem d_H_drawnAt_28 : decode b_H_drawnAt 28 = .ok (.aload_n 0, 1) := by decide +kernel
theorem d_H_drawnAt_29 : decode b_H_drawnAt 29 = .ok (.getfield 50, 3) := by decide +kernel
theorem d_H_drawnAt_32 : decode b_H_drawnAt 32 = .ok (.getfield 180, 3) := by decide +kernel
theorem d_H_drawnAt_35 : decode b_H_drawnAt 35 = .ok (.iload_n 1, 1) := by decide +kernel
theorem d_H_drawnAt_36 : decode b_H_drawnAt 36 = .ok (.invokevirtual 165, 3) := by decide +kernel
theorem d_H_drawnAt_39 : decode b_H_drawnAt 39 = .ok (.goto 4, 3) := by decide +kernel
theorem d_H_drawnAt_42 : decode b_H_drawnAt 42 = .ok (.iconst (-1), 1) := by decide +kernel
theorem d_H_drawnAt_43 : decode b_H_drawnAt 43 = .ok (.ireturn, 1) := by decide +kernel
theorem d_H_trees_0 : decode b_H_trees 0 = .ok (.aload_n 0, 1) := by decide +kernel
theorem d_H_trees_1 : decode b_H_trees 1 = .ok (.getfield 57, 3) := by decide +kernel
theorem d_H_trees_4 : decode b_H_trees 4 = .ok (.iload_n 1, 1) := by decide +kernel
theorem d_H_trees_5 : decode b_H_trees 5 = .ok (.invokevirtual 99, 3) := by decide +kernel
theorem d_H_trees_8 : decode b_H_trees 8 = .ok (.ifCond .eq 14, 3) := by decide +kernel
theorem d_H_trees_11 : decode b_H_trees 11 = .ok (.aload_n 0, 1) := by decide +kernel
theorem d_H_trees_12 : decode b_H_trees 12 = .ok (.getfield 66, 3) := by decide +kernel
theorem d_H_trees_15 : decode b_H_trees 15 = .ok (.iload_n 1, 1) := by decide +kernel
theorem d_H_trees_16 : decode b_H_trees 16 = .ok (.invokevirtual 182, 3) := by decide +kernel
theorem d_H_trees_19 : decode b_H_trees 19 = .ok (.goto 6, 3) := by decide +kernel
theorem d_H_trees_22 : decode b_H_trees 22 = .ok (.ldc2_w 126, 3) := by decide +kernel
theorem d_H_trees_25 : decode b_H_trees 25 = .ok (.lreturn, 1) := by decide +kernel
theorem d_H_treeCount_0 : decode b_H_treeCount 0 = .ok (.aload_n 0, 1) := by decide +kernel
theorem d_H_treeCount_1 : decode b_H_treeCount 1 = .ok (.getfield 57, 3) := by decide +kernel
theorem d_H_treeCount_4 : decode b_H_treeCount 4 = .ok (.iload_n 1, 1) := by decide +kernel
theorem d_H_treeCount_5 : decode b_H_treeCount 5 = .ok (.invokevirtual 99, 3) := by decide +kernel
theorem d_H_treeCount_8 : decode b_H_treeCount 8 = .ok (.ifCond .eq 14, 3) := by decide +kernel
theorem d_H_treeCount_11 : decode b_H_treeCount 11 = .ok (.aload_n 0, 1) := by decide +kernel
theorem d_H_treeCount_12 : decode b_H_treeCount 12 = .ok (.getfield 66, 3) := by decide +kernel
theorem d_H_treeCount_15 : decode b_H_treeCount 15 = .ok (.iload_n 1, 1) := by decide +kernel
theorem d_H_treeCount_16 : decode b_H_treeCount 16 = .ok (.invokevirtual 185, 3) := by decide +kernel
theorem d_H_treeCount_19 : decode b_H_treeCount 19 = .ok (.goto 6, 3) := by decide +kernel
theorem d_H_treeCount_22 : decode b_H_treeCount 22 = .ok (.ldc2_w 126, 3) := by decide +kernel
theorem d_H_treeCount_25 : decode b_H_treeCount 25 = .ok (.lreturn, 1) := by decide +kernel
theorem d_H_treeBest_0 : decode b_H_treeBest 0 = .ok (.aload_n 0, 1) := by decide +kernel
theorem d_H_treeBest_1 : decode b_H_treeBest 1 = .ok (.getfield 57, 3) := by decide +kernel
theorem d_H_treeBest_4 : decode b_H_treeBest 4 = .ok (.iload_n 1, 1) := by decide +kernel
theorem d_H_treeBest_5 : decode b_H_treeBest 5 = .ok (.invokevirtual 99, 3) := by decide +kernel
theorem d_H_treeBest_8 : decode b_H_treeBest 8 = .ok (.ifCond .ne 7, 3) := by decide +kernel
theorem d_H_treeBest_11 : decode b_H_treeBest 11 = .ok (.ldc2_w 126, 3) := by decide +kernel
theorem d_H_treeBest_14 : decode b_H_treeBest 14 = .ok (.lreturn, 1) := by decide +kernel
theorem d_H_treeBest_15 : decode b_H_treeBest 15 = .ok (.aload_n 0, 1) := by decide +kernel
theorem d_H_treeBest_16 : decode b_H_treeBest 16 = .ok (.getfield 66, 3) := by decide +kernel
theorem d_H_treeBest_19 : decode b_H_treeBest 19 = .ok (.iload_n 1, 1) := by decide +kernel
theorem d_H_treeBest_20 : decode b_H_treeBest 20 = .ok (.invokevirtual 182, 3) := by decide +kernel
theorem d_H_treeBest_23 : decode b_H_treeBest 23 = .ok (.lconst 0, 1) := by decide +kernel
theorem d_H_treeBest_24 : decode b_H_treeBest 24 = .ok (.lcmp, 1) := by decide +kernel
theorem d_H_treeBest_25 : decode b_H_treeBest 25 = .ok (.ifCond .le 14, 3) := by decide +kernel
theorem d_H_treeBest_28 : decode b_H_treeBest 28 = .ok (.aload_n 0, 1) := by decide +kernel
theorem d_H_treeBest_29 : decode b_H_treeBest 29 = .ok (.getfield 66, 3) := by decide +kernel
theorem d_H_treeBest_32 : decode b_H_treeBest 32 = .ok (.iload_n 1, 1) := by decide +kernel
theorem d_H_treeBest_33 : decode b_H_treeBest 33 = .ok (.invokevirtual 188, 3) := by decide +kernel
theorem d_H_treeBest_36 : decode b_H_treeBest 36 = .ok (.goto 6, 3) := by decide +kernel
theorem d_H_treeBest_39 : decode b_H_treeBest 39 = .ok (.ldc2_w 160, 3) := by decide +kernel
theorem d_H_treeBest_42 : decode b_H_treeBest 42 = .ok (.lreturn, 1) := by decide +kernel
theorem d_H_treeAt_0 : decode b_H_treeAt 0 = .ok (.aload_n 0, 1) := by decide +kernel
theorem d_H_treeAt_1 : decode b_H_treeAt 1 = .ok (.getfield 57, 3) := by decide +kernel
theorem d_H_treeAt_4 : decode b_H_treeAt 4 = .ok (.iload_n 1, 1) := by decide +kernel
theorem d_H_treeAt_5 : decode b_H_treeAt 5 = .ok (.invokevirtual 99, 3) := by decide +kernel
theorem d_H_treeAt_8 : decode b_H_treeAt 8 = .ok (.ifCond .ne 5, 3) := by decide +kernel
theorem d_H_treeAt_11 : decode b_H_treeAt 11 = .ok (.iconst (-1), 1) := by decide +kernel
theorem d_H_treeAt_12 : decode b_H_treeAt 12 = .ok (.ireturn, 1) := by decide +kernel
theorem d_H_treeAt_13 : decode b_H_treeAt 13 = .ok (.aload_n 0, 1) := by decide +kernel
theorem d_H_treeAt_14 : decode b_H_treeAt 14 = .ok (.getfield 66, 3) := by decide +kernel
theorem d_H_treeAt_17 : decode b_H_treeAt 17 = .ok (.iload_n 1, 1) := by decide +kernel
theorem d_H_treeAt_18 : decode b_H_treeAt 18 = .ok (.invokevirtual 182, 3) := by decide +kernel
theorem d_H_treeAt_21 : decode b_H_treeAt 21 = .ok (.lconst 0, 1) := by decide +kernel
theorem d_H_treeAt_22 : decode b_H_treeAt 22 = .ok (.lcmp, 1) := by decide +kernel
theorem d_H_treeAt_23 : decode b_H_treeAt 23 = .ok (.ifCond .gt 6, 3) := by decide +kernel
theorem d_H_treeAt_26 : decode b_H_treeAt 26 = .ok (.bipush (-3), 2) := by decide +kernel
theorem d_H_treeAt_28 : decode b_H_treeAt 28 = .ok (.ireturn, 1) := by decide +kernel
theorem d_H_treeAt_29 : decode b_H_treeAt 29 = .ok (.iload_n 2, 1) := by decide +kernel
theorem d_H_treeAt_30 : decode b_H_treeAt 30 = .ok (.ifCond .lt 18, 3) := by decide +kernel
theorem d_H_treeAt_33 : decode b_H_treeAt 33 = .ok (.iload_n 2, 1) := by decide +kernel
theorem d_H_treeAt_34 : decode b_H_treeAt 34 = .ok (.iconst 2, 1) := by decide +kernel
theorem d_H_treeAt_35 : decode b_H_treeAt 35 = .ok (.aload_n 0, 1) := by decide +kernel
theorem d_H_treeAt_36 : decode b_H_treeAt 36 = .ok (.getfield 12, 3) := by decide +kernel
theorem d_H_treeAt_39 : decode b_H_treeAt 39 = .ok (.getfield 110, 3) := by decide +kernel
theorem d_H_treeAt_42 : decode b_H_treeAt 42 = .ok (.imul, 1) := by decide +kernel
theorem d_H_treeAt_43 : decode b_H_treeAt 43 = .ok (.iconst 1, 1) := by decide +kernel
theorem d_H_treeAt_44 : decode b_H_treeAt 44 = .ok (.isub, 1) := by decide +kernel
theorem d_H_treeAt_45 : decode b_H_treeAt 45 = .ok (.if_icmp .lt 5, 3) := by decide +kernel
theorem d_H_treeAt_48 : decode b_H_treeAt 48 = .ok (.iconst (-1), 1) := by decide +kernel
theorem d_H_treeAt_49 : decode b_H_treeAt 49 = .ok (.ireturn, 1) := by decide +kernel
theorem d_H_treeAt_50 : decode b_H_treeAt 50 = .ok (.aload_n 0, 1) := by decide +kernel
theorem d_H_treeAt_51 : decode b_H_treeAt 51 = .ok (.getfield 66, 3) := by decide +kernel
theorem d_H_treeAt_54 : decode b_H_treeAt 54 = .ok (.iload_n 1, 1) := by decide +kernel
theorem d_H_treeAt_55 : decode b_H_treeAt 55 = .ok (.iload_n 2, 1) := by decide +kernel
theorem d_H_treeAt_56 : decode b_H_treeAt 56 = .ok (.invokevirtual 191, 3) := by decide +kernel
theorem d_H_treeAt_59 : decode b_H_treeAt 59 = .ok (.ireturn, 1) := by decide +kernel
theorem d_H_span_0 : decode b_H_span 0 = .ok (.aload_n 0, 1) := by decide +kernel
theorem d_H_span_1 : decode b_H_span 1 = .ok (.getfield 57, 3) := by decide +kernel
theorem d_H_span_4 : decode b_H_span 4 = .ok (.iload_n 1, 1) := by decide +kernel
theorem d_H_span_5 : decode b_H_span 5 = .ok (.invokevirtual 99, 3) := by decide +kernel
theorem d_H_span_8 : decode b_H_span 8 = .ok (.ifCond .eq 43, 3) := by decide +kernel
theorem d_H_span_11 : decode b_H_span 11 = .ok (.aload_n 0, 1) := by decide +kernel
theorem d_H_span_12 : decode b_H_span 12 = .ok (.getfield 57, 3) := by decide +kernel
theorem d_H_span_15 : decode b_H_span 15 = .ok (.iload_n 2, 1) := by decide +kernel
theorem d_H_span_16 : decode b_H_span 16 = .ok (.invokevirtual 99, 3) := by decide +kernel
theorem d_H_span_19 : decode b_H_span 19 = .ok (.ifCond .eq 32, 3) := by decide +kernel
theorem d_H_span_22 : decode b_H_span 22 = .ok (.aload_n 0, 1) := by decide +kernel
theorem d_H_span_23 : decode b_H_span 23 = .ok (.getfield 12, 3) := by decide +kernel
theorem d_H_span_26 : decode b_H_span 26 = .ok (.iload_n 3, 1) := by decide +kernel
theorem d_H_span_27 : decode b_H_span 27 = .ok (.invokevirtual 117, 3) := by decide +kernel
theorem d_H_span_30 : decode b_H_span 30 = .ok (.ifCond .eq 21, 3) := by decide +kernel
theorem d_H_span_33 : decode b_H_span 33 = .ok (.aload_n 0, 1) := by decide +kernel
theorem d_H_span_34 : decode b_H_span 34 = .ok (.getfield 12, 3) := by decide +kernel
theorem d_H_span_37 : decode b_H_span 37 = .ok (.iload 4, 2) := by decide +kernel
theorem d_H_span_39 : decode b_H_span 39 = .ok (.invokevirtual 117, 3) := by decide +kernel
theorem d_H_span_42 : decode b_H_span 42 = .ok (.ifCond .eq 9, 3) := by decide +kernel
theorem d_H_span_45 : decode b_H_span 45 = .ok (.iload_n 3, 1) := by decide +kernel
theorem d_H_span_46 : decode b_H_span 46 = .ok (.iload 4, 2) := by decide +kernel
theorem d_H_span_48 : decode b_H_span 48 = .ok (.if_icmp .le 7, 3) := by decide +kernel
theorem d_H_span_51 : decode b_H_span 51 = .ok (.ldc2_w 126, 3) := by decide +kernel
theorem d_H_span_54 : decode b_H_span 54 = .ok (.lreturn, 1) := by decide +kernel
theorem d_H_span_55 : decode b_H_span 55 = .ok (.iload 5, 2) := by decide +kernel
theorem d_H_span_57 : decode b_H_span 57 = .ok (.invokestatic 128, 3) := by decide +kernel
theorem d_H_span_60 : decode b_H_span 60 = .ok (.ifCond .ne 7, 3) := by decide +kernel
theorem d_H_span_63 : decode b_H_span 63 = .ok (.ldc2_w 131, 3) := by decide +kernel
theorem d_H_span_66 : decode b_H_span 66 = .ok (.lreturn, 1) := by decide +kernel
theorem d_H_span_67 : decode b_H_span 67 = .ok (.aload_n 0, 1) := by decide +kernel
theorem d_H_span_68 : decode b_H_span 68 = .ok (.getfield 66, 3) := by decide +kernel
theorem d_H_span_71 : decode b_H_span 71 = .ok (.iload_n 1, 1) := by decide +kernel
theorem d_H_span_72 : decode b_H_span 72 = .ok (.iload_n 2, 1) := by decide +kernel
theorem d_H_span_73 : decode b_H_span 73 = .ok (.iload_n 3, 1) := by decide +kernel
theorem d_H_span_74 : decode b_H_span 74 = .ok (.iload 4, 2) := by decide +kernel
theorem d_H_span_76 : decode b_H_span 76 = .ok (.invokevirtual 194, 3) := by decide +kernel
theorem d_H_span_79 : decode b_H_span 79 = .ok (.aload_n 0, 1) := by decide +kernel
theorem d_H_span_80 : decode b_H_span 80 = .ok (.getfield 66, 3) := by decide +kernel
theorem d_H_span_83 : decode b_H_span 83 = .ok (.iload_n 1, 1) := by decide +kernel
theorem d_H_span_84 : decode b_H_span 84 = .ok (.invokevirtual 182, 3) := by decide +kernel
theorem d_H_span_87 : decode b_H_span 87 = .ok (.iload 5, 2) := by decide +kernel
theorem d_H_span_89 : decode b_H_span 89 = .ok (.invokestatic 137, 3) := by decide +kernel
theorem d_H_span_92 : decode b_H_span 92 = .ok (.lreturn, 1) := by decide +kernel
end
section
theorem d_Mo_init_0 : decode b_Mo_init 0 = .ok (.aload_n 0, 1) := by decide +kernel
theorem d_Mo_init_1 : decode b_Mo_init 1 = .ok (.invokespecial 1, 3) := by decide +kernel
theorem d_Mo_init_4 : decode b_Mo_init 4 = .ok (.aload_n 0, 1) := by decide +kernel
theorem d_Mo_init_5 : decode b_Mo_init 5 = .ok (.bipush 36, 2) := by decide +kernel
theorem d_Mo_init_7 : decode b_Mo_init 7 = .ok (.newarray .int, 2) := by decide +kernel
theorem d_Mo_init_9 : decode b_Mo_init 9 = .ok (.putfield 7, 3) := by decide +kernel
theorem d_Mo_init_12 : decode b_Mo_init 12 = .ok (.aload_n 0, 1) := by decide +kernel
theorem d_Mo_init_13 : decode b_Mo_init 13 = .ok (.bipush 16, 2) := by decide +kernel
theorem d_Mo_init_15 : decode b_Mo_init 15 = .ok (.newarray .int, 2) := by decide +kernel
theorem d_Mo_init_17 : decode b_Mo_init 17 = .ok (.putfield 13, 3) := by decide +kernel
theorem d_Mo_init_20 : decode b_Mo_init 20 = .ok (.aload_n 0, 1) := by decide +kernel
theorem d_Mo_init_21 : decode b_Mo_init 21 = .ok (.bipush 64, 2) := by decide +kernel
theorem d_Mo_init_23 : decode b_Mo_init 23 = .ok (.newarray .int, 2) := by decide +kernel
theorem d_Mo_init_25 : decode b_Mo_init 25 = .ok (.putfield 16, 3) := by decide +kernel
theorem d_Mo_init_28 : decode b_Mo_init 28 = .ok (.aload_n 0, 1) := by decide +kernel
theorem d_Mo_init_29 : decode b_Mo_init 29 = .ok (.bipush 16, 2) := by decide +kernel
theorem d_Mo_init_31 : decode b_Mo_init 31 = .ok (.newarray .int, 2) := by decide +kernel
theorem d_Mo_init_33 : decode b_Mo_init 33 = .ok (.putfield 19, 3) := by decide +kernel
theorem d_Mo_init_36 : decode b_Mo_init 36 = .ok (.aload_n 0, 1) := by decide +kernel
theorem d_Mo_init_37 : decode b_Mo_init 37 = .ok (.bipush 6, 2) := by decide +kernel
theorem d_Mo_init_39 : decode b_Mo_init 39 = .ok (.newarray .int, 2) := by decide +kernel
theorem d_Mo_init_41 : decode b_Mo_init 41 = .ok (.putfield 22, 3) := by decide +kernel
theorem d_Mo_init_44 : decode b_Mo_init 44 = .ok (.aload_n 0, 1) := by decide +kernel
theorem d_Mo_init_45 : decode b_Mo_init 45 = .ok (.bipush 6, 2) := by decide +kernel
theorem d_Mo_init_47 : decode b_Mo_init 47 = .ok (.newarray .int, 2) := by decide +kernel
theorem d_Mo_init_49 : decode b_Mo_init 49 = .ok (.putfield 25, 3) := by decide +kernel
theorem d_Mo_init_52 : decode b_Mo_init 52 = .ok (.aload_n 0, 1) := by decide +kernel
theorem d_Mo_init_53 : decode b_Mo_init 53 = .ok (.bipush 7, 2) := by decide +kernel
theorem d_Mo_init_55 : decode b_Mo_init 55 = .ok (.newarray .int, 2) := by decide +kernel
theorem d_Mo_init_57 : decode b_Mo_init 57 = .ok (.putfield 28, 3) := by decide +kernel
theorem d_Mo_init_60 : decode b_Mo_init 60 = .ok (.aload_n 0, 1) := by decide +kernel
theorem d_Mo_init_61 : decode b_Mo_init 61 = .ok (.bipush 24, 2) := by decide +kernel
theorem d_Mo_init_63 : decode b_Mo_init 63 = .ok (.newarray .long, 2) := by decide +kernel
theorem d_Mo_init_65 : decode b_Mo_init 65 = .ok (.putfield 31, 3) := by decide +kernel
theorem d_Mo_init_68 : decode b_Mo_init 68 = .ok (.aload_n 0, 1) := by decide +kernel
theorem d_Mo_init_69 : decode b_Mo_init 69 = .ok (.bipush 24, 2) := by decide +kernel
theorem d_Mo_init_71 : decode b_Mo_init 71 = .ok (.newarray .long, 2) := by decide +kernel
theorem d_Mo_init_73 : decode b_Mo_init 73 = .ok (.putfield 35, 3) := by decide +kernel
theorem d_Mo_init_76 : decode b_Mo_init 76 = .ok (.aload_n 0, 1) := by decide +kernel
theorem d_Mo_init_77 : decode b_Mo_init 77 = .ok (.bipush 96, 2) := by decide +kernel
theorem d_Mo_init_79 : decode b_Mo_init 79 = .ok (.newarray .long, 2) := by decide +kernel
theorem d_Mo_init_81 : decode b_Mo_init 81 = .ok (.putfield 38, 3) := by decide +kernel
theorem d_Mo_init_84 : decode b_Mo_init 84 = .ok (.aload_n 0, 1) := by decide +kernel
theorem d_Mo_init_85 : decode b_Mo_init 85 = .ok (.bipush 11, 2) := by decide +kernel
theorem d_Mo_init_87 : decode b_Mo_init 87 = .ok (.newarray .long, 2) := by decide +kernel
theorem d_Mo_init_89 : decode b_Mo_init 89 = .ok (.putfield 41, 3) := by decide +kernel
theorem d_Mo_init_92 : decode b_Mo_init 92 = .ok (.aload_n 0, 1) := by decide +kernel
theorem d_Mo_init_93 : decode b_Mo_init 93 = .ok (.bipush 66, 2) := by decide +kernel
theorem d_Mo_init_95 : decode b_Mo_init 95 = .ok (.newarray .int, 2) := by decide +kernel
theorem d_Mo_init_97 : decode b_Mo_init 97 = .ok (.putfield 44, 3) := by decide +kernel
theorem d_Mo_init_100 : decode b_Mo_init 100 = .ok (.aload_n 0, 1) := by decide +kernel
theorem d_Mo_init_101 : decode b_Mo_init 101 = .ok (.bipush 6, 2) := by decide +kernel
theorem d_Mo_init_103 : decode b_Mo_init 103 = .ok (.newarray .int, 2) := by decide +kernel
theorem d_Mo_init_105 : decode b_Mo_init 105 = .ok (.putfield 47, 3) := by decide +kernel
theorem d_Mo_init_108 : decode b_Mo_init 108 = .ok (.aload_n 0, 1) := by decide +kernel
theorem d_Mo_init_109 : decode b_Mo_init 109 = .ok (.sipush 144, 3) := by decide +kernel
theorem d_Mo_init_112 : decode b_Mo_init 112 = .ok (.newarray .long, 2) := by decide +kernel
theorem d_Mo_init_114 : decode b_Mo_init 114 = .ok (.putfield 50, 3) := by decide +kernel
theorem d_Mo_init_117 : decode b_Mo_init 117 = .ok (.aload_n 0, 1) := by decide +kernel
theorem d_Mo_init_118 : decode b_Mo_init 118 = .ok (.sipush 144, 3) := by decide +kernel
theorem d_Mo_init_121 : decode b_Mo_init 121 = .ok (.newarray .long, 2) := by decide +kernel
theorem d_Mo_init_123 : decode b_Mo_init 123 = .ok (.putfield 53, 3) := by decide +kernel
theorem d_Mo_init_126 : decode b_Mo_init 126 = .ok (.aload_n 0, 1) := by decide +kernel
theorem d_Mo_init_127 : decode b_Mo_init 127 = .ok (.sipush 144, 3) := by decide +kernel
theorem d_Mo_init_130 : decode b_Mo_init 130 = .ok (.newarray .long, 2) := by decide +kernel
theorem d_Mo_init_132 : decode b_Mo_init 132 = .ok (.putfield 56, 3) := by decide +kernel
theorem d_Mo_init_135 : decode b_Mo_init 135 = .ok (.aload_n 0, 1) := by decide +kernel
theorem d_Mo_init_136 : decode b_Mo_init 136 = .ok (.bipush 12, 2) := by decide +kernel
theorem d_Mo_init_138 : decode b_Mo_init 138 = .ok (.newarray .int, 2) := by decide +kernel
theorem d_Mo_init_140 : decode b_Mo_init 140 = .ok (.putfield 59, 3) := by decide +kernel
theorem d_Mo_init_143 : decode b_Mo_init 143 = .ok (.aload_n 0, 1) := by decide +kernel
theorem d_Mo_init_144 : decode b_Mo_init 144 = .ok (.bipush 12, 2) := by decide +kernel
theorem d_Mo_init_146 : decode b_Mo_init 146 = .ok (.newarray .int, 2) := by decide +kernel
theorem d_Mo_init_148 : decode b_Mo_init 148 = .ok (.putfield 62, 3) := by decide +kernel
theorem d_Mo_init_151 : decode b_Mo_init 151 = .ok (.aload_n 0, 1) := by decide +kernel
theorem d_Mo_init_152 : decode b_Mo_init 152 = .ok (.bipush 12, 2) := by decide +kernel
theorem d_Mo_init_154 : decode b_Mo_init 154 = .ok (.newarray .int, 2) := by decide +kernel
theorem d_Mo_init_156 : decode b_Mo_init 156 = .ok (.putfield 65, 3) := by decide +kernel
theorem d_Mo_init_159 : decode b_Mo_init 159 = .ok (.return_, 1) := by decide +kernel
theorem d_Mo_state_0 : decode b_Mo_state 0 = .ok (.aload_n 0, 1) := by decide +kernel
theorem d_Mo_state_1 : decode b_Mo_state 1 = .ok (.getfield 75, 3) := by decide +kernel
theorem d_Mo_state_4 : decode b_Mo_state 4 = .ok (.iconst 4, 1) := by decide +kernel
theorem d_Mo_state_5 : decode b_Mo_state 5 = .ok (.if_icmp .ne 6, 3) := by decide +kernel
theorem d_Mo_state_8 : decode b_Mo_state 8 = .ok (.bipush (-4), 2) := by decide +kernel
theorem d_Mo_state_10 : decode b_Mo_state 10 = .ok (.ireturn, 1) := by decide +kernel
theorem d_Mo_state_11 : decode b_Mo_state 11 = .ok (.iconst 0, 1) := by decide +kernel
theorem d_Mo_state_12 : decode b_Mo_state 12 = .ok (.istore_n 1, 1) := by decide +kernel
theorem d_Mo_state_13 : decode b_Mo_state 13 = .ok (.iload_n 1, 1) := by decide +kernel
theorem d_Mo_state_14 : decode b_Mo_state 14 = .ok (.bipush 9, 2) := by decide +kernel
theorem d_Mo_state_16 : decode b_Mo_state 16 = .ok (.if_icmp .ge 33, 3) := by decide +kernel
theorem d_Mo_state_19 : decode b_Mo_state 19 = .ok (.aload_n 0, 1) := by decide +kernel
theorem d_Mo_state_20 : decode b_Mo_state 20 = .ok (.getfield 7, 3) := by decide +kernel
theorem d_Mo_state_23 : decode b_Mo_state 23 = .ok (.bipush 9, 2) := by decide +kernel
theorem d_Mo_state_25 : decode b_Mo_state 25 = .ok (.aload_n 0, 1) := by decide +kernel
theorem d_Mo_state_26 : decode b_Mo_state 26 = .ok (.getfield 75, 3) := by decide +kernel
theorem d_Mo_state_29 : decode b_Mo_state 29 = .ok (.imul, 1) := by decide +kernel
theorem d_Mo_state_30 : decode b_Mo_state 30 = .ok (.iload_n 1, 1) := by decide +kernel
theorem d_Mo_state_31 : decode b_Mo_state 31 = .ok (.iadd, 1) := by decide +kernel
theorem d_Mo_state_32 : decode b_Mo_state 32 = .ok (.iload_n 1, 1) := by decide +kernel
theorem d_Mo_state_33 : decode b_Mo_state 33 = .ok (.iconst 3, 1) := by decide +kernel
theorem d_Mo_state_34 : decode b_Mo_state 34 = .ok (.if_icmp .ge 7, 3) := by decide +kernel
theorem d_Mo_state_37 : decode b_Mo_state 37 = .ok (.iconst 1, 1) := by decide +kernel
theorem d_Mo_state_38 : decode b_Mo_state 38 = .ok (.goto 4, 3) := by decide +kernel
theorem d_Mo_state_41 : decode b_Mo_state 41 = .ok (.iconst 0, 1) := by decide +kernel
theorem d_Mo_state_42 : decode b_Mo_state 42 = .ok (.iastore, 1) := by decide +kernel
theorem d_Mo_state_43 : decode b_Mo_state 43 = .ok (.iinc 1 1, 3) := by decide +kernel
theorem d_Mo_state_46 : decode b_Mo_state 46 = .ok (.goto (-33), 3) := by decide +kernel
theorem d_Mo_state_49 : decode b_Mo_state 49 = .ok (.iconst 0, 1) := by decide +kernel
theorem d_Mo_state_50 : decode b_Mo_state 50 = .ok (.istore_n 1, 1) := by decide +kernel
theorem d_Mo_state_51 : decode b_Mo_state 51 = .ok (.iload_n 1, 1) := by decide +kernel
theorem d_Mo_state_52 : decode b_Mo_state 52 = .ok (.aload_n 0, 1) := by decide +kernel
theorem d_Mo_state_53 : decode b_Mo_state 53 = .ok (.getfield 75, 3) := by decide +kernel
theorem d_Mo_state_56 : decode b_Mo_state 56 = .ok (.if_icmp .gt 37, 3) := by decide +kernel
theorem d_Mo_state_59 : decode b_Mo_state 59 = .ok (.aload_n 0, 1) := by decide +kernel
theorem d_Mo_state_60 : decode b_Mo_state 60 = .ok (.getfield 13, 3) := by decide +kernel
theorem d_Mo_state_63 : decode b_Mo_state 63 = .ok (.iconst 4, 1) := by decide +kernel
theorem d_Mo_state_64 : decode b_Mo_state 64 = .ok (.aload_n 0, 1) := by decide +kernel
theorem d_Mo_state_65 : decode b_Mo_state 65 = .ok (.getfield 75, 3) := by decide +kernel
theorem d_Mo_state_68 : decode b_Mo_state 68 = .ok (.imul, 1) := by decide +kernel
theorem d_Mo_state_69 : decode b_Mo_state 69 = .ok (.iload_n 1, 1) := by decide +kernel
theorem d_Mo_state_70 : decode b_Mo_state 70 = .ok (.iadd, 1) := by decide +kernel
theorem d_Mo_state_71 : decode b_Mo_state 71 = .ok (.iconst 0, 1) := by decide +kernel
theorem d_Mo_state_72 : decode b_Mo_state 72 = .ok (.iastore, 1) := by decide +kernel
theorem d_Mo_state_73 : decode b_Mo_state 73 = .ok (.aload_n 0, 1) := by decide +kernel
theorem d_Mo_state_74 : decode b_Mo_state 74 = .ok (.getfield 13, 3) := by decide +kernel
theorem d_Mo_state_77 : decode b_Mo_state 77 = .ok (.iconst 4, 1) := by decide +kernel
theorem d_Mo_state_78 : decode b_Mo_state 78 = .ok (.iload_n 1, 1) := by decide +kernel
theorem d_Mo_state_79 : decode b_Mo_state 79 = .ok (.imul, 1) := by decide +kernel
theorem d_Mo_state_80 : decode b_Mo_state 80 = .ok (.aload_n 0, 1) := by decide +kernel
theorem d_Mo_state_81 : decode b_Mo_state 81 = .ok (.getfield 75, 3) := by decide +kernel
theorem d_Mo_state_84 : decode b_Mo_state 84 = .ok (.iadd, 1) := by decide +kernel
theorem d_Mo_state_85 : decode b_Mo_state 85 = .ok (.iconst 0, 1) := by decide +kernel
theorem d_Mo_state_86 : decode b_Mo_state 86 = .ok (.iastore, 1) := by decide +kernel
theorem d_Mo_state_87 : decode b_Mo_state 87 = .ok (.iinc 1 1, 3) := by decide +kernel
theorem d_Mo_state_90 : decode b_Mo_state 90 = .ok (.goto (-39), 3) := by decide +kernel
theorem d_Mo_state_93 : decode b_Mo_state 93 = .ok (.aload_n 0, 1) := by decide +kernel
theorem d_Mo_state_94 : decode b_Mo_state 94 = .ok (.dup, 1) := by decide +kernel
theorem d_Mo_state_95 : decode b_Mo_state 95 = .ok (.getfield 75, 3) := by decide +kernel
theorem d_Mo_state_98 : decode b_Mo_state 98 = .ok (.iconst 1, 1) := by decide +kernel
theorem d_Mo_state_99 : decode b_Mo_state 99 = .ok (.iadd, 1) := by decide +kernel
theorem d_Mo_state_100 : decode b_Mo_state 100 = .ok (.putfield 75, 3) := by decide +kernel
theorem d_Mo_state_103 : decode b_Mo_state 103 = .ok (.aload_n 0, 1) := by decide +kernel
theorem d_Mo_state_104 : decode b_Mo_state 104 = .ok (.invokevirtual 85, 3) := by decide +kernel
theorem d_Mo_state_107 : decode b_Mo_state 107 = .ok (.aload_n 0, 1) := by decide +kernel
theorem d_Mo_state_108 : decode b_Mo_state 108 = .ok (.getfield 75, 3) := by decide +kernel
theorem d_Mo_state_111 : decode b_Mo_state 111 = .ok (.iconst 1, 1) := by decide +kernel
theorem d_Mo_state_112 : decode b_Mo_state 112 = .ok (.isub, 1) := by decide +kernel
theorem d_Mo_state_113 : decode b_Mo_state 113 = .ok (.ireturn, 1) := by decide +kernel
theorem d_Mo_change_0 : decode b_Mo_change 0 = .ok (.aload_n 0, 1) := by decide +kernel
theorem d_Mo_change_1 : decode b_Mo_change 1 = .ok (.iconst 0, 1) := by decide +kernel
theorem d_Mo_change_2 : decode b_Mo_change 2 = .ok (.putfield 68, 3) := by decide +kernel
theorem d_Mo_change_5 : decode b_Mo_change 5 = .ok (.aload_n 0, 1) := by decide +kernel
theorem d_Mo_change_6 : decode b_Mo_change 6 = .ok (.iconst 0, 1) := by decide +kernel
theorem d_Mo_change_7 : decode b_Mo_change 7 = .ok (.putfield 72, 3) := by decide +kernel
theorem d_Mo_change_10 : decode b_Mo_change 10 = .ok (.return_, 1) := by decide +kernel
theorem d_Mo_weight_0 : decode b_Mo_weight 0 = .ok (.aload_n 0, 1) := by decide +kernel
theorem d_Mo_weight_1 : decode b_Mo_weight 1 = .ok (.iload_n 1, 1) := by decide +kernel
theorem d_Mo_weight_2 : decode b_Mo_weight 2 = .ok (.invokevirtual 88, 3) := by decide +kernel
theorem d_Mo_weight_5 : decode b_Mo_weight 5 = .ok (.ifCond .eq 13, 3) := by decide +kernel
theorem d_Mo_weight_8 : decode b_Mo_weight 8 = .ok (.iload_n 2, 1) := by decide +kernel
theorem d_Mo_weight_9 : decode b_Mo_weight 9 = .ok (.ifCond .lt 9, 3) := by decide +kernel
theorem d_Mo_weight_12 : decode b_Mo_weight 12 = .ok (.iload_n 2, 1) := by decide +kernel
theorem d_Mo_weight_13 : decode b_Mo_weight 13 = .ok (.bipush 8, 2) := by decide +kernel
theorem d_Mo_weight_15 : decode b_Mo_weight 15 = .ok (.if_icmp .le 5, 3) := by decide +kernel
theorem d_Mo_weight_18 : decode b_Mo_weight 18 = .ok (.iconst (-1), 1) := by decide +kernel
theorem d_Mo_weight_19 : decode b_Mo_weight 19 = .ok (.ireturn, 1) := by decide +kernel
theorem d_Mo_weight_20 : decode b_Mo_weight 20 = .ok (.iload_n 3, 1) := by decide +kernel
theorem d_Mo_weight_21 : decode b_Mo_weight 21 = .ok (.invokestatic 92, 3) := by decide +kernel
theorem d_Mo_weight_24 : decode b_Mo_weight 24 = .ok (.ifCond .ne 6, 3) := by decide +kernel
theorem d_Mo_weight_27 : decode b_Mo_weight 27 = .ok (.bipush (-2), 2) := by decide +kernel
theorem d_Mo_weight_29 : decode b_Mo_weight 29 = .ok (.ireturn, 1) := by decide +kernel
theorem d_Mo_weight_30 : decode b_Mo_weight 30 = .ok (.aload_n 0, 1) := by decide +kernel
theorem d_Mo_weight_31 : decode b_Mo_weight 31 = .ok (.getfield 7, 3) := by decide +kernel
theorem d_Mo_weight_34 : decode b_Mo_weight 34 = .ok (.bipush 9, 2) := by decide +kernel
theorem d_Mo_weight_36 : decode b_Mo_weight 36 = .ok (.iload_n 1, 1) := by decide +kernel
theorem d_Mo_weight_37 : decode b_Mo_weight 37 = .ok (.imul, 1) := by decide +kernel
theorem d_Mo_weight_38 : decode b_Mo_weight 38 = .ok (.iload_n 2, 1) := by decide +kernel
theorem d_Mo_weight_39 : decode b_Mo_weight 39 = .ok (.iadd, 1) := by decide +kernel
theorem d_Mo_weight_40 : decode b_Mo_weight 40 = .ok (.iaload, 1) := by decide +kernel
theorem d_Mo_weight_41 : decode b_Mo_weight 41 = .ok (.istore 4, 2) := by decide +kernel
theorem d_Mo_weight_43 : decode b_Mo_weight 43 = .ok (.aload_n 0, 1) := by decide +kernel
theorem d_Mo_weight_44 : decode b_Mo_weight 44 = .ok (.getfield 7, 3) := by decide +kernel
theorem d_Mo_weight_47 : decode b_Mo_weight 47 = .ok (.bipush 9, 2) := by decide +kernel
theorem d_Mo_weight_49 : decode b_Mo_weight 49 = .ok (.iload_n 1, 1) := by decide +kernel
theorem d_Mo_weight_50 : decode b_Mo_weight 50 = .ok (.imul, 1) := by decide +kernel
theorem d_Mo_weight_51 : decode b_Mo_weight 51 = .ok (.iload_n 2, 1) := by decide +kernel
theorem d_Mo_weight_52 : decode b_Mo_weight 52 = .ok (.iadd, 1) := by decide +kernel
theorem d_Mo_weight_53 : decode b_Mo_weight 53 = .ok (.iload_n 3, 1) := by decide +kernel
theorem d_Mo_weight_54 : decode b_Mo_weight 54 = .ok (.iastore, 1) := by decide +kernel
theorem d_Mo_weight_55 : decode b_Mo_weight 55 = .ok (.aload_n 0, 1) := by decide +kernel
theorem d_Mo_weight_56 : decode b_Mo_weight 56 = .ok (.invokevirtual 85, 3) := by decide +kernel
theorem d_Mo_weight_59 : decode b_Mo_weight 59 = .ok (.iload 4, 2) := by decide +kernel
theorem d_Mo_weight_61 : decode b_Mo_weight 61 = .ok (.ireturn, 1) := by decide +kernel
theorem d_Mo_isState_0 : decode b_Mo_isState 0 = .ok (.iload_n 1, 1) := by decide +kernel
theorem d_Mo_isState_1 : decode b_Mo_isState 1 = .ok (.ifCond .lt 15, 3) := by decide +kernel
theorem d_Mo_isState_4 : decode b_Mo_isState 4 = .ok (.iload_n 1, 1) := by decide +kernel
theorem d_Mo_isState_5 : decode b_Mo_isState 5 = .ok (.aload_n 0, 1) := by decide +kernel
theorem d_Mo_isState_6 : decode b_Mo_isState 6 = .ok (.getfield 75, 3) := by decide +kernel
theorem d_Mo_isState_9 : decode b_Mo_isState 9 = .ok (.if_icmp .ge 7, 3) := by decide +kernel
theorem d_Mo_isState_12 : decode b_Mo_isState 12 = .ok (.iconst 1, 1) := by decide +kernel
theorem d_Mo_isState_13 : decode b_Mo_isState 13 = .ok (.goto 4, 3) := by decide +kernel
theorem d_Mo_isState_16 : decode b_Mo_isState 16 = .ok (.iconst 0, 1) := by decide +kernel
theorem d_Mo_isState_17 : decode b_Mo_isState 17 = .ok (.ireturn, 1) := by decide +kernel
theorem d_Mo_isWeight_0 : decode b_Mo_isWeight 0 = .ok (.iload_n 0, 1) := by decide +kernel
theorem d_Mo_isWeight_1 : decode b_Mo_isWeight 1 = .ok (.ifCond .lt 12, 3) := by decide +kernel
theorem d_Mo_isWeight_4 : decode b_Mo_isWeight 4 = .ok (.iload_n 0, 1) := by decide +kernel
theorem d_Mo_isWeight_5 : decode b_Mo_isWeight 5 = .ok (.iconst 4, 1) := by decide +kernel
theorem d_Mo_isWeight_6 : decode b_Mo_isWeight 6 = .ok (.if_icmp .gt 7, 3) := by decide +kernel
theorem d_Mo_isWeight_9 : decode b_Mo_isWeight 9 = .ok (.iconst 1, 1) := by decide +kernel
theorem d_Mo_isWeight_10 : decode b_Mo_isWeight 10 = .ok (.goto 4, 3) := by decide +kernel
theorem d_Mo_isWeight_13 : decode b_Mo_isWeight 13 = .ok (.iconst 0, 1) := by decide +kernel
theorem d_Mo_isWeight_14 : decode b_Mo_isWeight 14 = .ok (.ireturn, 1) := by decide +kernel
theorem d_Mo_move_0 : decode b_Mo_move 0 = .ok (.aload_n 0, 1) := by decide +kernel
theorem d_Mo_move_1 : decode b_Mo_move 1 = .ok (.iload_n 1, 1) := by decide +kernel
theorem d_Mo_move_2 : decode b_Mo_move 2 = .ok (.invokevirtual 88, 3) := by decide +kernel
theorem d_Mo_move_5 : decode b_Mo_move 5 = .ok (.ifCond .eq 11, 3) := by decide +kernel
theorem d_Mo_move_8 : decode b_Mo_move 8 = .ok (.aload_n 0, 1) := by decide +kernel
theorem d_Mo_move_9 : decode b_Mo_move 9 = .ok (.iload_n 2, 1) := by decide +kernel
theorem d_Mo_move_10 : decode b_Mo_move 10 = .ok (.invokevirtual 88, 3) := by decide +kernel
theorem d_Mo_move_13 : decode b_Mo_move 13 = .ok (.ifCond .ne 5, 3) := by decide +kernel
theorem d_Mo_move_16 : decode b_Mo_move 16 = .ok (.iconst (-1), 1) := by decide +kernel
theorem d_Mo_move_17 : decode b_Mo_move 17 = .ok (.ireturn, 1) := by decide +kernel
theorem d_Mo_move_18 : decode b_Mo_move 18 = .ok (.iload_n 3, 1) := by decide +kernel
theorem d_Mo_move_19 : decode b_Mo_move 19 = .ok (.invokestatic 92, 3) := by decide +kernel
theorem d_Mo_move_22 : decode b_Mo_move 22 = .ok (.ifCond .ne 6, 3) := by decide +kernel
theorem d_Mo_move_25 : decode b_Mo_move 25 = .ok (.bipush (-2), 2) := by decide +kernel
theorem d_Mo_move_27 : decode b_Mo_move 27 = .ok (.ireturn, 1) := by decide +kernel
theorem d_Mo_move_28 : decode b_Mo_move 28 = .ok (.aload_n 0, 1) := by decide +kernel
theorem d_Mo_move_29 : decode b_Mo_move 29 = .ok (.getfield 13, 3) := by decide +kernel
theorem d_Mo_move_32 : decode b_Mo_move 32 = .ok (.iconst 4, 1) := by decide +kernel
theorem d_Mo_move_33 : decode b_Mo_move 33 = .ok (.iload_n 1, 1) := by decide +kernel
theorem d_Mo_move_34 : decode b_Mo_move 34 = .ok (.imul, 1) := by decide +kernel
theorem d_Mo_move_35 : decode b_Mo_move 35 = .ok (.iload_n 2, 1) := by decide +kernel
theorem d_Mo_move_36 : decode b_Mo_move 36 = .ok (.iadd, 1) := by decide +kernel
theorem d_Mo_move_37 : decode b_Mo_move 37 = .ok (.iaload, 1) := by decide +kernel
theorem d_Mo_move_38 : decode b_Mo_move 38 = .ok (.istore 4, 2) := by decide +kernel
theorem d_Mo_move_40 : decode b_Mo_move 40 = .ok (.aload_n 0, 1) := by decide +kernel
theorem d_Mo_move_41 : decode b_Mo_move 41 = .ok (.getfield 13, 3) := by decide +kernel
theorem d_Mo_move_44 : decode b_Mo_move 44 = .ok (.iconst 4, 1) := by decide +kernel
theorem d_Mo_move_45 : decode b_Mo_move 45 = .ok (.iload_n 1, 1) := by decide +kernel
theorem d_Mo_move_46 : decode b_Mo_move 46 = .ok (.imul, 1) := by decide +kernel
theorem d_Mo_move_47 : decode b_Mo_move 47 = .ok (.iload_n 2, 1) := by decide +kernel
theorem d_Mo_move_48 : decode b_Mo_move 48 = .ok (.iadd, 1) := by decide +kernel
theorem d_Mo_move_49 : decode b_Mo_move 49 = .ok (.iload_n 3, 1) := by decide +kernel
theorem d_Mo_move_50 : decode b_Mo_move 50 = .ok (.iastore, 1) := by decide +kernel
theorem d_Mo_move_51 : decode b_Mo_move 51 = .ok (.aload_n 0, 1) := by decide +kernel
theorem d_Mo_move_52 : decode b_Mo_move 52 = .ok (.invokevirtual 85, 3) := by decide +kernel
theorem d_Mo_move_55 : decode b_Mo_move 55 = .ok (.iload 4, 2) := by decide +kernel
theorem d_Mo_move_57 : decode b_Mo_move 57 = .ok (.ireturn, 1) := by decide +kernel
theorem d_Mo_kind_0 : decode b_Mo_kind 0 = .ok (.aload_n 0, 1) := by decide +kernel
theorem d_Mo_kind_1 : decode b_Mo_kind 1 = .ok (.getfield 79, 3) := by decide +kernel
theorem d_Mo_kind_4 : decode b_Mo_kind 4 = .ok (.iconst 4, 1) := by decide +kernel
theorem d_Mo_kind_5 : decode b_Mo_kind 5 = .ok (.if_icmp .ne 6, 3) := by decide +kernel
theorem d_Mo_kind_8 : decode b_Mo_kind 8 = .ok (.bipush (-4), 2) := by decide +kernel
theorem d_Mo_kind_10 : decode b_Mo_kind 10 = .ok (.ireturn, 1) := by decide +kernel
theorem d_Mo_kind_11 : decode b_Mo_kind 11 = .ok (.aload_n 0, 1) := by decide +kernel
theorem d_Mo_kind_12 : decode b_Mo_kind 12 = .ok (.dup, 1) := by decide +kernel
theorem d_Mo_kind_13 : decode b_Mo_kind 13 = .ok (.getfield 79, 3) := by decide +kernel
theorem d_Mo_kind_16 : decode b_Mo_kind 16 = .ok (.iconst 1, 1) := by decide +kernel
theorem d_Mo_kind_17 : decode b_Mo_kind 17 = .ok (.iadd, 1) := by decide +kernel
theorem d_Mo_kind_18 : decode b_Mo_kind 18 = .ok (.putfield 79, 3) := by decide +kernel
theorem d_Mo_kind_21 : decode b_Mo_kind 21 = .ok (.aload_n 0, 1) := by decide +kernel
theorem d_Mo_kind_22 : decode b_Mo_kind 22 = .ok (.getfield 79, 3) := by decide +kernel
theorem d_Mo_kind_25 : decode b_Mo_kind 25 = .ok (.iconst 1, 1) := by decide +kernel
theorem d_Mo_kind_26 : decode b_Mo_kind 26 = .ok (.isub, 1) := by decide +kernel
theorem d_Mo_kind_27 : decode b_Mo_kind 27 = .ok (.ireturn, 1) := by decide +kernel
theorem d_Mo_rule_0 : decode b_Mo_rule 0 = .ok (.aload_n 0, 1) := by decide +kernel
theorem d_Mo_rule_1 : decode b_Mo_rule 1 = .ok (.iload_n 1, 1) := by decide +kernel
theorem d_Mo_rule_2 : decode b_Mo_rule 2 = .ok (.invokevirtual 95, 3) := by decide +kernel
theorem d_Mo_rule_5 : decode b_Mo_rule 5 = .ok (.ifCond .eq 19, 3) := by decide +kernel
theorem d_Mo_rule_8 : decode b_Mo_rule 8 = .ok (.aload_n 0, 1) := by decide +kernel
theorem d_Mo_rule_9 : decode b_Mo_rule 9 = .ok (.iload_n 2, 1) := by decide +kernel
theorem d_Mo_rule_10 : decode b_Mo_rule 10 = .ok (.invokevirtual 95, 3) := by decide +kernel
theorem d_Mo_rule_13 : decode b_Mo_rule 13 = .ok (.ifCond .eq 11, 3) := by decide +kernel
theorem d_Mo_rule_16 : decode b_Mo_rule 16 = .ok (.aload_n 0, 1) := by decide +kernel
theorem d_Mo_rule_17 : decode b_Mo_rule 17 = .ok (.iload_n 3, 1) := by decide +kernel
theorem d_Mo_rule_18 : decode b_Mo_rule 18 = .ok (.invokevirtual 95, 3) := by decide +kernel
theorem d_Mo_rule_21 : decode b_Mo_rule 21 = .ok (.ifCond .ne 5, 3) := by decide +kernel
theorem d_Mo_rule_24 : decode b_Mo_rule 24 = .ok (.iconst (-1), 1) := by decide +kernel
theorem d_Mo_rule_25 : decode b_Mo_rule 25 = .ok (.ireturn, 1) := by decide +kernel
theorem d_Mo_rule_26 : decode b_Mo_rule 26 = .ok (.iload 4, 2) := by decide +kernel
theorem d_Mo_rule_28 : decode b_Mo_rule 28 = .ok (.invokestatic 92, 3) := by decide +kernel
theorem d_Mo_rule_31 : decode b_Mo_rule 31 = .ok (.ifCond .ne 6, 3) := by decide +kernel
theorem d_Mo_rule_34 : decode b_Mo_rule 34 = .ok (.bipush (-2), 2) := by decide +kernel
theorem d_Mo_rule_36 : decode b_Mo_rule 36 = .ok (.ireturn, 1) := by decide +kernel
theorem d_Mo_rule_37 : decode b_Mo_rule 37 = .ok (.aload_n 0, 1) := by decide +kernel
theorem d_Mo_rule_38 : decode b_Mo_rule 38 = .ok (.getfield 16, 3) := by decide +kernel
theorem d_Mo_rule_41 : decode b_Mo_rule 41 = .ok (.bipush 16, 2) := by decide +kernel
theorem d_Mo_rule_43 : decode b_Mo_rule 43 = .ok (.iload_n 1, 1) := by decide +kernel
theorem d_Mo_rule_44 : decode b_Mo_rule 44 = .ok (.imul, 1) := by decide +kernel
theorem d_Mo_rule_45 : decode b_Mo_rule 45 = .ok (.iconst 4, 1) := by decide +kernel
theorem d_Mo_rule_46 : decode b_Mo_rule 46 = .ok (.iload_n 2, 1) := by decide +kernel
theorem d_Mo_rule_47 : decode b_Mo_rule 47 = .ok (.imul, 1) := by decide +kernel
theorem d_Mo_rule_48 : decode b_Mo_rule 48 = .ok (.iadd, 1) := by decide +kernel
theorem d_Mo_rule_49 : decode b_Mo_rule 49 = .ok (.iload_n 3, 1) := by decide +kernel
theorem d_Mo_rule_50 : decode b_Mo_rule 50 = .ok (.iadd, 1) := by decide +kernel
theorem d_Mo_rule_51 : decode b_Mo_rule 51 = .ok (.iaload, 1) := by decide +kernel
theorem d_Mo_rule_52 : decode b_Mo_rule 52 = .ok (.istore 5, 2) := by decide +kernel
theorem d_Mo_rule_54 : decode b_Mo_rule 54 = .ok (.aload_n 0, 1) := by decide +kernel
theorem d_Mo_rule_55 : decode b_Mo_rule 55 = .ok (.getfield 16, 3) := by decide +kernel
theorem d_Mo_rule_58 : decode b_Mo_rule 58 = .ok (.bipush 16, 2) := by decide +kernel
theorem d_Mo_rule_60 : decode b_Mo_rule 60 = .ok (.iload_n 1, 1) := by decide +kernel
theorem d_Mo_rule_61 : decode b_Mo_rule 61 = .ok (.imul, 1) := by decide +kernel
theorem d_Mo_rule_62 : decode b_Mo_rule 62 = .ok (.iconst 4, 1) := by decide +kernel
theorem d_Mo_rule_63 : decode b_Mo_rule 63 = .ok (.iload_n 2, 1) := by decide +kernel
theorem d_Mo_rule_64 : decode b_Mo_rule 64 = .ok (.imul, 1) := by decide +kernel
theorem d_Mo_rule_65 : decode b_Mo_rule 65 = .ok (.iadd, 1) := by decide +kernel
theorem d_Mo_rule_66 : decode b_Mo_rule 66 = .ok (.iload_n 3, 1) := by decide +kernel
theorem d_Mo_rule_67 : decode b_Mo_rule 67 = .ok (.iadd, 1) := by decide +kernel
theorem d_Mo_rule_68 : decode b_Mo_rule 68 = .ok (.iload 4, 2) := by decide +kernel
theorem d_Mo_rule_70 : decode b_Mo_rule 70 = .ok (.iastore, 1) := by decide +kernel
theorem d_Mo_rule_71 : decode b_Mo_rule 71 = .ok (.iload 5, 2) := by decide +kernel
theorem d_Mo_rule_73 : decode b_Mo_rule 73 = .ok (.ireturn, 1) := by decide +kernel
theorem d_Mo_isKind_0 : decode b_Mo_isKind 0 = .ok (.iload_n 1, 1) := by decide +kernel
theorem d_Mo_isKind_1 : decode b_Mo_isKind 1 = .ok (.ifCond .lt 15, 3) := by decide +kernel
theorem d_Mo_isKind_4 : decode b_Mo_isKind 4 = .ok (.iload_n 1, 1) := by decide +kernel
theorem d_Mo_isKind_5 : decode b_Mo_isKind 5 = .ok (.aload_n 0, 1) := by decide +kernel
theorem d_Mo_isKind_6 : decode b_Mo_isKind 6 = .ok (.getfield 79, 3) := by decide +kernel
theorem d_Mo_isKind_9 : decode b_Mo_isKind 9 = .ok (.if_icmp .ge 7, 3) := by decide +kernel
theorem d_Mo_isKind_12 : decode b_Mo_isKind 12 = .ok (.iconst 1, 1) := by decide +kernel
theorem d_Mo_isKind_13 : decode b_Mo_isKind 13 = .ok (.goto 4, 3) := by decide +kernel
theorem d_Mo_isKind_16 : decode b_Mo_isKind 16 = .ok (.iconst 0, 1) := by decide +kernel
theorem d_Mo_isKind_17 : decode b_Mo_isKind 17 = .ok (.ireturn, 1) := by decide +kernel
theorem d_Mo_leaf_0 : decode b_Mo_leaf 0 = .ok (.aload_n 0, 1) := by decide +kernel
theorem d_Mo_leaf_1 : decode b_Mo_leaf 1 = .ok (.iload_n 1, 1) := by decide +kernel
theorem d_Mo_leaf_2 : decode b_Mo_leaf 2 = .ok (.invokevirtual 95, 3) := by decide +kernel
theorem d_Mo_leaf_5 : decode b_Mo_leaf 5 = .ok (.ifCond .eq 12, 3) := by decide +kernel
theorem d_Mo_leaf_8 : decode b_Mo_leaf 8 = .ok (.iload_n 2, 1) := by decide +kernel
theorem d_Mo_leaf_9 : decode b_Mo_leaf 9 = .ok (.ifCond .lt 8, 3) := by decide +kernel
theorem d_Mo_leaf_12 : decode b_Mo_leaf 12 = .ok (.iload_n 2, 1) := by decide +kernel
theorem d_Mo_leaf_13 : decode b_Mo_leaf 13 = .ok (.iconst 3, 1) := by decide +kernel
theorem d_Mo_leaf_14 : decode b_Mo_leaf 14 = .ok (.if_icmp .le 5, 3) := by decide +kernel
theorem d_Mo_leaf_17 : decode b_Mo_leaf 17 = .ok (.iconst (-1), 1) := by decide +kernel
theorem d_Mo_leaf_18 : decode b_Mo_leaf 18 = .ok (.ireturn, 1) := by decide +kernel
theorem d_Mo_leaf_19 : decode b_Mo_leaf 19 = .ok (.iload_n 3, 1) := by decide +kernel
theorem d_Mo_leaf_20 : decode b_Mo_leaf 20 = .ok (.invokestatic 92, 3) := by decide +kernel
theorem d_Mo_leaf_23 : decode b_Mo_leaf 23 = .ok (.ifCond .ne 6, 3) := by decide +kernel
theorem d_Mo_leaf_26 : decode b_Mo_leaf 26 = .ok (.bipush (-2), 2) := by decide +kernel
theorem d_Mo_leaf_28 : decode b_Mo_leaf 28 = .ok (.ireturn, 1) := by decide +kernel
theorem d_Mo_leaf_29 : decode b_Mo_leaf 29 = .ok (.aload_n 0, 1) := by decide +kernel
theorem d_Mo_leaf_30 : decode b_Mo_leaf 30 = .ok (.getfield 19, 3) := by decide +kernel
theorem d_Mo_leaf_33 : decode b_Mo_leaf 33 = .ok (.iconst 4, 1) := by decide +kernel
theorem d_Mo_leaf_34 : decode b_Mo_leaf 34 = .ok (.iload_n 1, 1) := by decide +kernel
theorem d_Mo_leaf_35 : decode b_Mo_leaf 35 = .ok (.imul, 1) := by decide +kernel
theorem d_Mo_leaf_36 : decode b_Mo_leaf 36 = .ok (.iload_n 2, 1) := by decide +kernel
theorem d_Mo_leaf_37 : decode b_Mo_leaf 37 = .ok (.iadd, 1) := by decide +kernel
theorem d_Mo_leaf_38 : decode b_Mo_leaf 38 = .ok (.iaload, 1) := by decide +kernel
theorem d_Mo_leaf_39 : decode b_Mo_leaf 39 = .ok (.istore 4, 2) := by decide +kernel
theorem d_Mo_leaf_41 : decode b_Mo_leaf 41 = .ok (.aload_n 0, 1) := by decide +kernel
theorem d_Mo_leaf_42 : decode b_Mo_leaf 42 = .ok (.getfield 19, 3) := by decide +kernel
theorem d_Mo_leaf_45 : decode b_Mo_leaf 45 = .ok (.iconst 4, 1) := by decide +kernel
theorem d_Mo_leaf_46 : decode b_Mo_leaf 46 = .ok (.iload_n 1, 1) := by decide +kernel
theorem d_Mo_leaf_47 : decode b_Mo_leaf 47 = .ok (.imul, 1) := by decide +kernel
theorem d_Mo_leaf_48 : decode b_Mo_leaf 48 = .ok (.iload_n 2, 1) := by decide +kernel
theorem d_Mo_leaf_49 : decode b_Mo_leaf 49 = .ok (.iadd, 1) := by decide +kernel
theorem d_Mo_leaf_50 : decode b_Mo_leaf 50 = .ok (.iload_n 3, 1) := by decide +kernel
theorem d_Mo_leaf_51 : decode b_Mo_leaf 51 = .ok (.iastore, 1) := by decide +kernel
theorem d_Mo_leaf_52 : decode b_Mo_leaf 52 = .ok (.iload 4, 2) := by decide +kernel
theorem d_Mo_leaf_54 : decode b_Mo_leaf 54 = .ok (.ireturn, 1) := by decide +kernel
theorem d_Mo_sign_0 : decode b_Mo_sign 0 = .ok (.iload_n 1, 1) := by decide +kernel
theorem d_Mo_sign_1 : decode b_Mo_sign 1 = .ok (.iconst (-1), 1) := by decide +kernel
theorem d_Mo_sign_2 : decode b_Mo_sign 2 = .ok (.if_icmp .lt 8, 3) := by decide +kernel
theorem d_Mo_sign_5 : decode b_Mo_sign 5 = .ok (.iload_n 1, 1) := by decide +kernel
theorem d_Mo_sign_6 : decode b_Mo_sign 6 = .ok (.iconst 3, 1) := by decide +kernel
theorem d_Mo_sign_7 : decode b_Mo_sign 7 = .ok (.if_icmp .le 6, 3) := by decide +kernel
theorem d_Mo_sign_10 : decode b_Mo_sign 10 = .ok (.bipush (-2), 2) := by decide +kernel
theorem d_Mo_sign_12 : decode b_Mo_sign 12 = .ok (.ireturn, 1) := by decide +kernel
theorem d_Mo_sign_13 : decode b_Mo_sign 13 = .ok (.aload_n 0, 1) := by decide +kernel
theorem d_Mo_sign_14 : decode b_Mo_sign 14 = .ok (.getfield 82, 3) := by decide +kernel
theorem d_Mo_sign_17 : decode b_Mo_sign 17 = .ok (.bipush 6, 2) := by decide +kernel
theorem d_Mo_sign_19 : decode b_Mo_sign 19 = .ok (.if_icmp .ne 6, 3) := by decide +kernel
theorem d_Mo_sign_22 : decode b_Mo_sign 22 = .ok (.bipush (-4), 2) := by decide +kernel
theorem d_Mo_sign_24 : decode b_Mo_sign 24 = .ok (.ireturn, 1) := by decide +kernel
theorem d_Mo_sign_25 : decode b_Mo_sign 25 = .ok (.aload_n 0, 1) := by decide +kernel
theorem d_Mo_sign_26 : decode b_Mo_sign 26 = .ok (.getfield 22, 3) := by decide +kernel
theorem d_Mo_sign_29 : decode b_Mo_sign 29 = .ok (.aload_n 0, 1) := by decide +kernel
theorem d_Mo_sign_30 : decode b_Mo_sign 30 = .ok (.getfield 82, 3) := by decide +kernel
theorem d_Mo_sign_33 : decode b_Mo_sign 33 = .ok (.iload_n 1, 1) := by decide +kernel
theorem d_Mo_sign_34 : decode b_Mo_sign 34 = .ok (.iastore, 1) := by decide +kernel
theorem d_Mo_sign_35 : decode b_Mo_sign 35 = .ok (.aload_n 0, 1) := by decide +kernel
theorem d_Mo_sign_36 : decode b_Mo_sign 36 = .ok (.getfield 25, 3) := by decide +kernel
theorem d_Mo_sign_39 : decode b_Mo_sign 39 = .ok (.aload_n 0, 1) := by decide +kernel
theorem d_Mo_sign_40 : decode b_Mo_sign 40 = .ok (.getfield 82, 3) := by decide +kernel
theorem d_Mo_sign_43 : decode b_Mo_sign 43 = .ok (.iconst (-1), 1) := by decide +kernel
theorem d_Mo_sign_44 : decode b_Mo_sign 44 = .ok (.iastore, 1) := by decide +kernel
theorem d_Mo_sign_45 : decode b_Mo_sign 45 = .ok (.aload_n 0, 1) := by decide +kernel
theorem d_Mo_sign_46 : decode b_Mo_sign 46 = .ok (.dup, 1) := by decide +kernel
theorem d_Mo_sign_47 : decode b_Mo_sign 47 = .ok (.getfield 82, 3) := by decide +kernel
theorem d_Mo_sign_50 : decode b_Mo_sign 50 = .ok (.iconst 1, 1) := by decide +kernel
theorem d_Mo_sign_51 : decode b_Mo_sign 51 = .ok (.iadd, 1) := by decide +kernel
theorem d_Mo_sign_52 : decode b_Mo_sign 52 = .ok (.putfield 82, 3) := by decide +kernel
theorem d_Mo_sign_55 : decode b_Mo_sign 55 = .ok (.aload_n 0, 1) := by decide +kernel
theorem d_Mo_sign_56 : decode b_Mo_sign 56 = .ok (.invokevirtual 85, 3) := by decide +kernel
theorem d_Mo_sign_59 : decode b_Mo_sign 59 = .ok (.aload_n 0, 1) := by decide +kernel
theorem d_Mo_sign_60 : decode b_Mo_sign 60 = .ok (.getfield 82, 3) := by decide +kernel
theorem d_Mo_sign_63 : decode b_Mo_sign 63 = .ok (.ireturn, 1) := by decide +kernel
theorem d_Mo_clear_0 : decode b_Mo_clear 0 = .ok (.aload_n 0, 1) := by decide +kernel
theorem d_Mo_clear_1 : decode b_Mo_clear 1 = .ok (.getfield 82, 3) := by decide +kernel
theorem d_Mo_clear_4 : decode b_Mo_clear 4 = .ok (.istore_n 1, 1) := by decide +kernel
theorem d_Mo_clear_5 : decode b_Mo_clear 5 = .ok (.aload_n 0, 1) := by decide +kernel
theorem d_Mo_clear_6 : decode b_Mo_clear 6 = .ok (.iconst 0, 1) := by decide +kernel
theorem d_Mo_clear_7 : decode b_Mo_clear 7 = .ok (.putfield 82, 3) := by decide +kernel
theorem d_Mo_clear_10 : decode b_Mo_clear 10 = .ok (.aload_n 0, 1) := by decide +kernel
theorem d_Mo_clear_11 : decode b_Mo_clear 11 = .ok (.invokevirtual 85, 3) := by decide +kernel
theorem d_Mo_clear_14 : decode b_Mo_clear 14 = .ok (.iload_n 1, 1) := by decide +kernel
theorem d_Mo_clear_15 : decode b_Mo_clear 15 = .ok (.ireturn, 1) := by decide +kernel
theorem d_Mo_hold_0 : decode b_Mo_hold 0 = .ok (.aload_n 0, 1) := by decide +kernel
theorem d_Mo_hold_1 : decode b_Mo_hold 1 = .ok (.iload_n 1, 1) := by decide +kernel
theorem d_Mo_hold_2 : decode b_Mo_hold 2 = .ok (.invokevirtual 98, 3) := by decide +kernel
theorem d_Mo_hold_5 : decode b_Mo_hold 5 = .ok (.ifCond .eq 16, 3) := by decide +kernel
theorem d_Mo_hold_8 : decode b_Mo_hold 8 = .ok (.iload_n 2, 1) := by decide +kernel
theorem d_Mo_hold_9 : decode b_Mo_hold 9 = .ok (.iconst (-1), 1) := by decide +kernel
theorem d_Mo_hold_10 : decode b_Mo_hold 10 = .ok (.if_icmp .eq 13, 3) := by decide +kernel
theorem d_Mo_hold_13 : decode b_Mo_hold 13 = .ok (.aload_n 0, 1) := by decide +kernel
theorem d_Mo_hold_14 : decode b_Mo_hold 14 = .ok (.iload_n 2, 1) := by decide +kernel
theorem d_Mo_hold_15 : decode b_Mo_hold 15 = .ok (.invokevirtual 88, 3) := by decide +kernel
theorem d_Mo_hold_18 : decode b_Mo_hold 18 = .ok (.ifCond .ne 5, 3) := by decide +kernel
theorem d_Mo_hold_21 : decode b_Mo_hold 21 = .ok (.iconst (-1), 1) := by decide +kernel
theorem d_Mo_hold_22 : decode b_Mo_hold 22 = .ok (.ireturn, 1) := by decide +kernel
theorem d_Mo_hold_23 : decode b_Mo_hold 23 = .ok (.aload_n 0, 1) := by decide +kernel
theorem d_Mo_hold_24 : decode b_Mo_hold 24 = .ok (.getfield 25, 3) := by decide +kernel
theorem d_Mo_hold_27 : decode b_Mo_hold 27 = .ok (.iload_n 1, 1) := by decide +kernel
theorem d_Mo_hold_28 : decode b_Mo_hold 28 = .ok (.iaload, 1) := by decide +kernel
theorem d_Mo_hold_29 : decode b_Mo_hold 29 = .ok (.istore_n 3, 1) := by decide +kernel
theorem d_Mo_hold_30 : decode b_Mo_hold 30 = .ok (.aload_n 0, 1) := by decide +kernel
theorem d_Mo_hold_31 : decode b_Mo_hold 31 = .ok (.getfield 25, 3) := by decide +kernel
theorem d_Mo_hold_34 : decode b_Mo_hold 34 = .ok (.iload_n 1, 1) := by decide +kernel
theorem d_Mo_hold_35 : decode b_Mo_hold 35 = .ok (.iload_n 2, 1) := by decide +kernel
theorem d_Mo_hold_36 : decode b_Mo_hold 36 = .ok (.iastore, 1) := by decide +kernel
theorem d_Mo_hold_37 : decode b_Mo_hold 37 = .ok (.aload_n 0, 1) := by decide +kernel
theorem d_Mo_hold_38 : decode b_Mo_hold 38 = .ok (.invokevirtual 85, 3) := by decide +kernel
theorem d_Mo_hold_41 : decode b_Mo_hold 41 = .ok (.iload_n 3, 1) := by decide +kernel
theorem d_Mo_hold_42 : decode b_Mo_hold 42 = .ok (.ireturn, 1) := by decide +kernel
theorem d_Mo_isPlace_0 : decode b_Mo_isPlace 0 = .ok (.iload_n 1, 1) := by decide +kernel
theorem d_Mo_isPlace_1 : decode b_Mo_isPlace 1 = .ok (.ifCond .lt 15, 3) := by decide +kernel
theorem d_Mo_isPlace_4 : decode b_Mo_isPlace 4 = .ok (.iload_n 1, 1) := by decide +kernel
theorem d_Mo_isPlace_5 : decode b_Mo_isPlace 5 = .ok (.aload_n 0, 1) := by decide +kernel
theorem d_Mo_isPlace_6 : decode b_Mo_isPlace 6 = .ok (.getfield 82, 3) := by decide +kernel
theorem d_Mo_isPlace_9 : decode b_Mo_isPlace 9 = .ok (.if_icmp .ge 7, 3) := by decide +kernel
theorem d_Mo_isPlace_12 : decode b_Mo_isPlace 12 = .ok (.iconst 1, 1) := by decide +kernel
theorem d_Mo_isPlace_13 : decode b_Mo_isPlace 13 = .ok (.goto 4, 3) := by decide +kernel
theorem d_Mo_isPlace_16 : decode b_Mo_isPlace 16 = .ok (.iconst 0, 1) := by decide +kernel
theorem d_Mo_isPlace_17 : decode b_Mo_isPlace 17 = .ok (.ireturn, 1) := by decide +kernel
theorem d_Mo_total_0 : decode b_Mo_total 0 = .ok (.aload_n 0, 1) := by decide +kernel
theorem d_Mo_total_1 : decode b_Mo_total 1 = .ok (.invokevirtual 138, 3) := by decide +kernel
theorem d_Mo_total_4 : decode b_Mo_total 4 = .ok (.aload_n 0, 1) := by decide +kernel
theorem d_Mo_total_5 : decode b_Mo_total 5 = .ok (.getfield 116, 3) := by decide +kernel
theorem d_Mo_total_8 : decode b_Mo_total 8 = .ok (.lreturn, 1) := by decide +kernel
theorem d_Mo_know_0 : decode b_Mo_know 0 = .ok (.aload_n 0, 1) := by decide +kernel
theorem d_Mo_know_1 : decode b_Mo_know 1 = .ok (.getfield 68, 3) := by decide +kernel
theorem d_Mo_know_4 : decode b_Mo_know 4 = .ok (.ifCond .eq 4, 3) := by decide +kernel
theorem d_Mo_know_7 : decode b_Mo_know 7 = .ok (.return_, 1) := by decide +kernel
theorem d_Mo_know_8 : decode b_Mo_know 8 = .ok (.aload_n 0, 1) := by decide +kernel
theorem d_Mo_know_9 : decode b_Mo_know 9 = .ok (.iconst 1, 1) := by decide +kernel
theorem d_Mo_know_10 : decode b_Mo_know 10 = .ok (.putfield 68, 3) := by decide +kernel
theorem d_Mo_know_13 : decode b_Mo_know 13 = .ok (.aload_n 0, 1) := by decide +kernel
theorem d_Mo_know_14 : decode b_Mo_know 14 = .ok (.lconst 0, 1) := by decide +kernel
theorem d_Mo_know_15 : decode b_Mo_know 15 = .ok (.putfield 116, 3) := by decide +kernel
theorem d_Mo_know_18 : decode b_Mo_know 18 = .ok (.aload_n 0, 1) := by decide +kernel
theorem d_Mo_know_19 : decode b_Mo_know 19 = .ok (.iconst 0, 1) := by decide +kernel
theorem d_Mo_know_20 : decode b_Mo_know 20 = .ok (.putfield 120, 3) := by decide +kernel
theorem d_Mo_know_23 : decode b_Mo_know 23 = .ok (.aload_n 0, 1) := by decide +kernel
theorem d_Mo_know_24 : decode b_Mo_know 24 = .ok (.iconst 0, 1) := by decide +kernel
theorem d_Mo_know_25 : decode b_Mo_know 25 = .ok (.putfield 113, 3) := by decide +kernel
theorem d_Mo_know_28 : decode b_Mo_know 28 = .ok (.iconst 0, 1) := by decide +kernel
theorem d_Mo_know_29 : decode b_Mo_know 29 = .ok (.istore_n 1, 1) := by decide +kernel
theorem d_Mo_know_30 : decode b_Mo_know 30 = .ok (.iload_n 1, 1) := by decide +kernel
theorem d_Mo_know_31 : decode b_Mo_know 31 = .ok (.bipush 24, 2) := by decide +kernel
theorem d_Mo_know_33 : decode b_Mo_know 33 = .ok (.if_icmp .ge 23, 3) := by decide +kernel
theorem d_Mo_know_36 : decode b_Mo_know 36 = .ok (.aload_n 0, 1) := by decide +kernel
theorem d_Mo_know_37 : decode b_Mo_know 37 = .ok (.getfield 31, 3) := by decide +kernel
theorem d_Mo_know_40 : decode b_Mo_know 40 = .ok (.iload_n 1, 1) := by decide +kernel
theorem d_Mo_know_41 : decode b_Mo_know 41 = .ok (.lconst 0, 1) := by decide +kernel
theorem d_Mo_know_42 : decode b_Mo_know 42 = .ok (.lastore, 1) := by decide +kernel
theorem d_Mo_know_43 : decode b_Mo_know 43 = .ok (.aload_n 0, 1) := by decide +kernel
theorem d_Mo_know_44 : decode b_Mo_know 44 = .ok (.getfield 35, 3) := by decide +kernel
theorem d_Mo_know_47 : decode b_Mo_know 47 = .ok (.iload_n 1, 1) := by decide +kernel
theorem d_Mo_know_48 : decode b_Mo_know 48 = .ok (.lconst 0, 1) := by decide +kernel
theorem d_Mo_know_49 : decode b_Mo_know 49 = .ok (.lastore, 1) := by decide +kernel
theorem d_Mo_know_50 : decode b_Mo_know 50 = .ok (.iinc 1 1, 3) := by decide +kernel
theorem d_Mo_know_53 : decode b_Mo_know 53 = .ok (.goto (-23), 3) := by decide +kernel
theorem d_Mo_know_56 : decode b_Mo_know 56 = .ok (.iconst 0, 1) := by decide +kernel
theorem d_Mo_know_57 : decode b_Mo_know 57 = .ok (.istore_n 1, 1) := by decide +kernel
theorem d_Mo_know_58 : decode b_Mo_know 58 = .ok (.iload_n 1, 1) := by decide +kernel
theorem d_Mo_know_59 : decode b_Mo_know 59 = .ok (.bipush 96, 2) := by decide +kernel
theorem d_Mo_know_61 : decode b_Mo_know 61 = .ok (.if_icmp .ge 16, 3) := by decide +kernel
theorem d_Mo_know_64 : decode b_Mo_know 64 = .ok (.aload_n 0, 1) := by decide +kernel
theorem d_Mo_know_65 : decode b_Mo_know 65 = .ok (.getfield 38, 3) := by decide +kernel
theorem d_Mo_know_68 : decode b_Mo_know 68 = .ok (.iload_n 1, 1) := by decide +kernel
theorem d_Mo_know_69 : decode b_Mo_know 69 = .ok (.lconst 0, 1) := by decide +kernel
theorem d_Mo_know_70 : decode b_Mo_know 70 = .ok (.lastore, 1) := by decide +kernel
theorem d_Mo_know_71 : decode b_Mo_know 71 = .ok (.iinc 1 1, 3) := by decide +kernel
theorem d_Mo_know_74 : decode b_Mo_know 74 = .ok (.goto (-16), 3) := by decide +kernel
theorem d_Mo_know_77 : decode b_Mo_know 77 = .ok (.aload_n 0, 1) := by decide +kernel
theorem d_Mo_know_78 : decode b_Mo_know 78 = .ok (.getfield 82, 3) := by decide +kernel
theorem d_Mo_know_81 : decode b_Mo_know 81 = .ok (.ifCond .le 15, 3) := by decide +kernel
theorem d_Mo_know_84 : decode b_Mo_know 84 = .ok (.aload_n 0, 1) := by decide +kernel
theorem d_Mo_know_85 : decode b_Mo_know 85 = .ok (.iconst 1, 1) := by decide +kernel
theorem d_Mo_know_86 : decode b_Mo_know 86 = .ok (.invokevirtual 123, 3) := by decide +kernel
theorem d_Mo_know_89 : decode b_Mo_know 89 = .ok (.ifCond .eq 7, 3) := by decide +kernel
theorem d_Mo_know_92 : decode b_Mo_know 92 = .ok (.iconst 1, 1) := by decide +kernel
theorem d_Mo_know_93 : decode b_Mo_know 93 = .ok (.goto 4, 3) := by decide +kernel
theorem d_Mo_know_96 : decode b_Mo_know 96 = .ok (.iconst 0, 1) := by decide +kernel
theorem d_Mo_know_97 : decode b_Mo_know 97 = .ok (.istore_n 1, 1) := by decide +kernel
theorem d_Mo_know_98 : decode b_Mo_know 98 = .ok (.iload_n 1, 1) := by decide +kernel
theorem d_Mo_know_99 : decode b_Mo_know 99 = .ok (.ifCond .eq 28, 3) := by decide +kernel
theorem d_Mo_know_102 : decode b_Mo_know 102 = .ok (.aload_n 0, 1) := by decide +kernel
theorem d_Mo_know_103 : decode b_Mo_know 103 = .ok (.invokevirtual 127, 3) := by decide +kernel
theorem d_Mo_know_106 : decode b_Mo_know 106 = .ok (.lstore_n 2, 1) := by decide +kernel
theorem d_Mo_know_107 : decode b_Mo_know 107 = .ok (.lload_n 2, 1) := by decide +kernel
theorem d_Mo_know_108 : decode b_Mo_know 108 = .ok (.lconst 0, 1) := by decide +kernel
theorem d_Mo_know_109 : decode b_Mo_know 109 = .ok (.lcmp, 1) := by decide +kernel
theorem d_Mo_know_110 : decode b_Mo_know 110 = .ok (.ifCond .le 8, 3) := by decide +kernel
theorem d_Mo_know_113 : decode b_Mo_know 113 = .ok (.aload_n 0, 1) := by decide +kernel
theorem d_Mo_know_114 : decode b_Mo_know 114 = .ok (.lload_n 2, 1) := by decide +kernel
theorem d_Mo_know_115 : decode b_Mo_know 115 = .ok (.invokevirtual 131, 3) := by decide +kernel
theorem d_Mo_know_118 : decode b_Mo_know 118 = .ok (.aload_n 0, 1) := by decide +kernel
theorem d_Mo_know_119 : decode b_Mo_know 119 = .ok (.iconst 0, 1) := by decide +kernel
theorem d_Mo_know_120 : decode b_Mo_know 120 = .ok (.invokevirtual 123, 3) := by decide +kernel
theorem d_Mo_know_123 : decode b_Mo_know 123 = .ok (.istore_n 1, 1) := by decide +kernel
theorem d_Mo_know_124 : decode b_Mo_know 124 = .ok (.goto (-26), 3) := by decide +kernel
theorem d_Mo_know_127 : decode b_Mo_know 127 = .ok (.return_, 1) := by decide +kernel
theorem d_Mo_next_0 : decode b_Mo_next 0 = .ok (.iload_n 1, 1) := by decide +kernel
theorem d_Mo_next_1 : decode b_Mo_next 1 = .ok (.ifCond .eq 7, 3) := by decide +kernel
theorem d_Mo_next_4 : decode b_Mo_next 4 = .ok (.iconst 0, 1) := by decide +kernel
theorem d_Mo_next_5 : decode b_Mo_next 5 = .ok (.goto 9, 3) := by decide +kernel
theorem d_Mo_next_8 : decode b_Mo_next 8 = .ok (.aload_n 0, 1) := by decide +kernel
theorem d_Mo_next_9 : decode b_Mo_next 9 = .ok (.getfield 82, 3) := by decide +kernel
theorem d_Mo_next_12 : decode b_Mo_next 12 = .ok (.iconst 1, 1) := by decide +kernel
theorem d_Mo_next_13 : decode b_Mo_next 13 = .ok (.isub, 1) := by decide +kernel
theorem d_Mo_next_14 : decode b_Mo_next 14 = .ok (.istore_n 2, 1) := by decide +kernel
theorem d_Mo_next_15 : decode b_Mo_next 15 = .ok (.iload_n 1, 1) := by decide +kernel
theorem d_Mo_next_16 : decode b_Mo_next 16 = .ok (.ifCond .eq 10, 3) := by decide +kernel
theorem d_Mo_next_19 : decode b_Mo_next 19 = .ok (.aload_n 0, 1) := by decide +kernel
theorem d_Mo_next_20 : decode b_Mo_next 20 = .ok (.getfield 28, 3) := by decide +kernel
theorem d_Mo_next_23 : decode b_Mo_next 23 = .ok (.iconst 0, 1) := by decide +kernel
theorem d_Mo_next_24 : decode b_Mo_next 24 = .ok (.iconst (-1), 1) := by decide +kernel
theorem d_Mo_next_25 : decode b_Mo_next 25 = .ok (.iastore, 1) := by decide +kernel
theorem d_Mo_next_26 : decode b_Mo_next 26 = .ok (.iload_n 2, 1) := by decide +kernel
theorem d_Mo_next_27 : decode b_Mo_next 27 = .ok (.ifCond .lt 75, 3) := by decide +kernel
theorem d_Mo_next_30 : decode b_Mo_next 30 = .ok (.aload_n 0, 1) := by decide +kernel
theorem d_Mo_next_31 : decode b_Mo_next 31 = .ok (.getfield 28, 3) := by decide +kernel
theorem d_Mo_next_34 : decode b_Mo_next 34 = .ok (.iload_n 2, 1) := by decide +kernel
theorem d_Mo_next_35 : decode b_Mo_next 35 = .ok (.iaload, 1) := by decide +kernel
theorem d_Mo_next_36 : decode b_Mo_next 36 = .ok (.iconst 1, 1) := by decide +kernel
theorem d_Mo_next_37 : decode b_Mo_next 37 = .ok (.iadd, 1) := by decide +kernel
theorem d_Mo_next_38 : decode b_Mo_next 38 = .ok (.istore_n 3, 1) := by decide +kernel
theorem d_Mo_next_39 : decode b_Mo_next 39 = .ok (.iload_n 3, 1) := by decide +kernel
theorem d_Mo_next_40 : decode b_Mo_next 40 = .ok (.bipush 8, 2) := by decide +kernel
theorem d_Mo_next_42 : decode b_Mo_next 42 = .ok (.if_icmp .ge 18, 3) := by decide +kernel
theorem d_Mo_next_45 : decode b_Mo_next 45 = .ok (.aload_n 0, 1) := by decide +kernel
theorem d_Mo_next_46 : decode b_Mo_next 46 = .ok (.iload_n 2, 1) := by decide +kernel
theorem d_Mo_next_47 : decode b_Mo_next 47 = .ok (.iload_n 3, 1) := by decide +kernel
theorem d_Mo_next_48 : decode b_Mo_next 48 = .ok (.invokevirtual 109, 3) := by decide +kernel
theorem d_Mo_next_51 : decode b_Mo_next 51 = .ok (.ifCond .ne 9, 3) := by decide +kernel
theorem d_Mo_next_54 : decode b_Mo_next 54 = .ok (.iinc 3 1, 3) := by decide +kernel
theorem d_Mo_next_57 : decode b_Mo_next 57 = .ok (.goto (-18), 3) := by decide +kernel
theorem d_Mo_next_60 : decode b_Mo_next 60 = .ok (.iload_n 3, 1) := by decide +kernel
theorem d_Mo_next_61 : decode b_Mo_next 61 = .ok (.bipush 8, 2) := by decide +kernel
theorem d_Mo_next_63 : decode b_Mo_next 63 = .ok (.if_icmp .ne 9, 3) := by decide +kernel
theorem d_Mo_next_66 : decode b_Mo_next 66 = .ok (.iinc 2 (-1), 3) := by decide +kernel
theorem d_Mo_next_69 : decode b_Mo_next 69 = .ok (.goto 30, 3) := by decide +kernel
theorem d_Mo_next_72 : decode b_Mo_next 72 = .ok (.aload_n 0, 1) := by decide +kernel
theorem d_Mo_next_73 : decode b_Mo_next 73 = .ok (.getfield 28, 3) := by decide +kernel
theorem d_Mo_next_76 : decode b_Mo_next 76 = .ok (.iload_n 2, 1) := by decide +kernel
theorem d_Mo_next_77 : decode b_Mo_next 77 = .ok (.iload_n 3, 1) := by decide +kernel
theorem d_Mo_next_78 : decode b_Mo_next 78 = .ok (.iastore, 1) := by decide +kernel
theorem d_Mo_next_79 : decode b_Mo_next 79 = .ok (.iinc 2 1, 3) := by decide +kernel
theorem d_Mo_next_82 : decode b_Mo_next 82 = .ok (.iload_n 2, 1) := by decide +kernel
theorem d_Mo_next_83 : decode b_Mo_next 83 = .ok (.aload_n 0, 1) := by decide +kernel
theorem d_Mo_next_84 : decode b_Mo_next 84 = .ok (.getfield 82, 3) := by decide +kernel
theorem d_Mo_next_87 : decode b_Mo_next 87 = .ok (.if_icmp .ne 5, 3) := by decide +kernel
theorem d_Mo_next_90 : decode b_Mo_next 90 = .ok (.iconst 1, 1) := by decide +kernel
theorem d_Mo_next_91 : decode b_Mo_next 91 = .ok (.ireturn, 1) := by decide +kernel
theorem d_Mo_next_92 : decode b_Mo_next 92 = .ok (.aload_n 0, 1) := by decide +kernel
theorem d_Mo_next_93 : decode b_Mo_next 93 = .ok (.getfield 28, 3) := by decide +kernel
theorem d_Mo_next_96 : decode b_Mo_next 96 = .ok (.iload_n 2, 1) := by decide +kernel
theorem d_Mo_next_97 : decode b_Mo_next 97 = .ok (.iconst (-1), 1) := by decide +kernel
theorem d_Mo_next_98 : decode b_Mo_next 98 = .ok (.iastore, 1) := by decide +kernel
theorem d_Mo_next_99 : decode b_Mo_next 99 = .ok (.goto (-73), 3) := by decide +kernel
theorem d_Mo_next_102 : decode b_Mo_next 102 = .ok (.iconst 0, 1) := by decide +kernel
theorem d_Mo_next_103 : decode b_Mo_next 103 = .ok (.ireturn, 1) := by decide +kernel
theorem d_Mo_canBe_0 : decode b_Mo_canBe 0 = .ok (.iload_n 2, 1) := by decide +kernel
theorem d_Mo_canBe_1 : decode b_Mo_canBe 1 = .ok (.iconst 2, 1) := by decide +kernel
theorem d_Mo_canBe_2 : decode b_Mo_canBe 2 = .ok (.irem, 1) := by decide +kernel
theorem d_Mo_canBe_3 : decode b_Mo_canBe 3 = .ok (.ifCond .ne 19, 3) := by decide +kernel
theorem d_Mo_canBe_6 : decode b_Mo_canBe 6 = .ok (.iload_n 2, 1) := by decide +kernel
theorem d_Mo_canBe_7 : decode b_Mo_canBe 7 = .ok (.iconst 2, 1) := by decide +kernel
theorem d_Mo_canBe_8 : decode b_Mo_canBe 8 = .ok (.idiv, 1) := by decide +kernel
theorem d_Mo_canBe_9 : decode b_Mo_canBe 9 = .ok (.aload_n 0, 1) := by decide +kernel
theorem d_Mo_canBe_10 : decode b_Mo_canBe 10 = .ok (.getfield 75, 3) := by decide +kernel
theorem d_Mo_canBe_13 : decode b_Mo_canBe 13 = .ok (.if_icmp .ge 7, 3) := by decide +kernel
theorem d_Mo_canBe_16 : decode b_Mo_canBe 16 = .ok (.iconst 1, 1) := by decide +kernel
theorem d_Mo_canBe_17 : decode b_Mo_canBe 17 = .ok (.goto 4, 3) := by decide +kernel
theorem d_Mo_canBe_20 : decode b_Mo_canBe 20 = .ok (.iconst 0, 1) := by decide +kernel
theorem d_Mo_canBe_21 : decode b_Mo_canBe 21 = .ok (.ireturn, 1) := by decide +kernel
theorem d_Mo_canBe_22 : decode b_Mo_canBe 22 = .ok (.iload_n 1, 1) := by decide +kernel
theorem d_Mo_canBe_23 : decode b_Mo_canBe 23 = .ok (.ifCond .le 34, 3) := by decide +kernel
theorem d_Mo_canBe_26 : decode b_Mo_canBe 26 = .ok (.aload_n 0, 1) := by decide +kernel
theorem d_Mo_canBe_27 : decode b_Mo_canBe 27 = .ok (.getfield 28, 3) := by decide +kernel
theorem d_Mo_canBe_30 : decode b_Mo_canBe 30 = .ok (.iload_n 1, 1) := by decide +kernel
theorem d_Mo_canBe_31 : decode b_Mo_canBe 31 = .ok (.iconst 1, 1) := by decide +kernel
theorem d_Mo_canBe_32 : decode b_Mo_canBe 32 = .ok (.isub, 1) := by decide +kernel
theorem d_Mo_canBe_33 : decode b_Mo_canBe 33 = .ok (.iaload, 1) := by decide +kernel
theorem d_Mo_canBe_34 : decode b_Mo_canBe 34 = .ok (.iconst 2, 1) := by decide +kernel
theorem d_Mo_canBe_35 : decode b_Mo_canBe 35 = .ok (.idiv, 1) := by decide +kernel
theorem d_Mo_canBe_36 : decode b_Mo_canBe 36 = .ok (.iload_n 2, 1) := by decide +kernel
theorem d_Mo_canBe_37 : decode b_Mo_canBe 37 = .ok (.iconst 2, 1) := by decide +kernel
theorem d_Mo_canBe_38 : decode b_Mo_canBe 38 = .ok (.idiv, 1) := by decide +kernel
theorem d_Mo_canBe_39 : decode b_Mo_canBe 39 = .ok (.if_icmp .ne 18, 3) := by decide +kernel
theorem d_Mo_canBe_42 : decode b_Mo_canBe 42 = .ok (.aload_n 0, 1) := by decide +kernel
theorem d_Mo_canBe_43 : decode b_Mo_canBe 43 = .ok (.iload_n 1, 1) := by decide +kernel
theorem d_Mo_canBe_44 : decode b_Mo_canBe 44 = .ok (.iconst 1, 1) := by decide +kernel
theorem d_Mo_canBe_45 : decode b_Mo_canBe 45 = .ok (.isub, 1) := by decide +kernel
theorem d_Mo_canBe_46 : decode b_Mo_canBe 46 = .ok (.invokevirtual 101, 3) := by decide +kernel
theorem d_Mo_canBe_49 : decode b_Mo_canBe 49 = .ok (.iconst 3, 1) := by decide +kernel
theorem d_Mo_canBe_50 : decode b_Mo_canBe 50 = .ok (.if_icmp .ge 7, 3) := by decide +kernel
theorem d_Mo_canBe_53 : decode b_Mo_canBe 53 = .ok (.iconst 1, 1) := by decide +kernel
theorem d_Mo_canBe_54 : decode b_Mo_canBe 54 = .ok (.goto 4, 3) := by decide +kernel
theorem d_Mo_canBe_57 : decode b_Mo_canBe 57 = .ok (.iconst 0, 1) := by decide +kernel
theorem d_Mo_canBe_58 : decode b_Mo_canBe 58 = .ok (.ireturn, 1) := by decide +kernel
theorem d_Mo_stay_0 : decode b_Mo_stay 0 = .ok (.iconst 1, 1) := by decide +kernel
theorem d_Mo_stay_1 : decode b_Mo_stay 1 = .ok (.istore_n 2, 1) := by decide +kernel
theorem d_Mo_stay_2 : decode b_Mo_stay 2 = .ok (.iload_n 1, 1) := by decide +kernel
theorem d_Mo_stay_3 : decode b_Mo_stay 3 = .ok (.istore_n 3, 1) := by decide +kernel
theorem d_Mo_stay_4 : decode b_Mo_stay 4 = .ok (.iload_n 3, 1) := by decide +kernel
theorem d_Mo_stay_5 : decode b_Mo_stay 5 = .ok (.ifCond .le 24, 3) := by decide +kernel
theorem d_Mo_stay_8 : decode b_Mo_stay 8 = .ok (.aload_n 0, 1) := by decide +kernel
theorem d_Mo_stay_9 : decode b_Mo_stay 9 = .ok (.getfield 28, 3) := by decide +kernel
theorem d_Mo_stay_12 : decode b_Mo_stay 12 = .ok (.iload_n 3, 1) := by decide +kernel
theorem d_Mo_stay_13 : decode b_Mo_stay 13 = .ok (.iaload, 1) := by decide +kernel
theorem d_Mo_stay_14 : decode b_Mo_stay 14 = .ok (.iconst 2, 1) := by decide +kernel
theorem d_Mo_stay_15 : decode b_Mo_stay 15 = .ok (.irem, 1) := by decide +kernel
theorem d_Mo_stay_16 : decode b_Mo_stay 16 = .ok (.iconst 1, 1) := by decide +kernel
theorem d_Mo_stay_17 : decode b_Mo_stay 17 = .ok (.if_icmp .ne 12, 3) := by decide +kernel
theorem d_Mo_stay_20 : decode b_Mo_stay 20 = .ok (.iinc 3 (-1), 3) := by decide +kernel
theorem d_Mo_stay_23 : decode b_Mo_stay 23 = .ok (.iinc 2 1, 3) := by decide +kernel
theorem d_Mo_stay_26 : decode b_Mo_stay 26 = .ok (.goto (-22), 3) := by decide +kernel
theorem d_Mo_stay_29 : decode b_Mo_stay 29 = .ok (.iload_n 2, 1) := by decide +kernel
theorem d_Mo_stay_30 : decode b_Mo_stay 30 = .ok (.ireturn, 1) := by decide +kernel
theorem d_Mo_weightOf_0 : decode b_Mo_weightOf 0 = .ok (.aload_n 0, 1) := by decide +kernel
theorem d_Mo_weightOf_1 : decode b_Mo_weightOf 1 = .ok (.getfield 7, 3) := by decide +kernel
theorem d_Mo_weightOf_4 : decode b_Mo_weightOf 4 = .ok (.bipush 9, 2) := by decide +kernel
theorem d_Mo_weightOf_6 : decode b_Mo_weightOf 6 = .ok (.aload_n 0, 1) := by decide +kernel
theorem d_Mo_weightOf_7 : decode b_Mo_weightOf 7 = .ok (.getfield 28, 3) := by decide +kernel
theorem d_Mo_weightOf_10 : decode b_Mo_weightOf 10 = .ok (.iconst 0, 1) := by decide +kernel
theorem d_Mo_weightOf_11 : decode b_Mo_weightOf 11 = .ok (.iaload, 1) := by decide +kernel
theorem d_Mo_weightOf_12 : decode b_Mo_weightOf 12 = .ok (.iconst 2, 1) := by decide +kernel
theorem d_Mo_weightOf_13 : decode b_Mo_weightOf 13 = .ok (.idiv, 1) := by decide +kernel
theorem d_Mo_weightOf_14 : decode b_Mo_weightOf 14 = .ok (.imul, 1) := by decide +kernel
theorem d_Mo_weightOf_15 : decode b_Mo_weightOf 15 = .ok (.iaload, 1) := by decide +kernel
theorem d_Mo_weightOf_16 : decode b_Mo_weightOf 16 = .ok (.aload_n 0, 1) := by decide +kernel
theorem d_Mo_weightOf_17 : decode b_Mo_weightOf 17 = .ok (.getfield 7, 3) := by decide +kernel
theorem d_Mo_weightOf_20 : decode b_Mo_weightOf 20 = .ok (.bipush 9, 2) := by decide +kernel
theorem d_Mo_weightOf_22 : decode b_Mo_weightOf 22 = .ok (.aload_n 0, 1) := by decide +kernel
theorem d_Mo_weightOf_23 : decode b_Mo_weightOf 23 = .ok (.getfield 28, 3) := by decide +kernel
theorem d_Mo_weightOf_26 : decode b_Mo_weightOf 26 = .ok (.aload_n 0, 1) := by decide +kernel
theorem d_Mo_weightOf_27 : decode b_Mo_weightOf 27 = .ok (.getfield 82, 3) := by decide +kernel
theorem d_Mo_weightOf_30 : decode b_Mo_weightOf 30 = .ok (.iconst 1, 1) := by decide +kernel
theorem d_Mo_weightOf_31 : decode b_Mo_weightOf 31 = .ok (.isub, 1) := by decide +kernel
theorem d_Mo_weightOf_32 : decode b_Mo_weightOf 32 = .ok (.iaload, 1) := by decide +kernel
theorem d_Mo_weightOf_33 : decode b_Mo_weightOf 33 = .ok (.iconst 2, 1) := by decide +kernel
theorem d_Mo_weightOf_34 : decode b_Mo_weightOf 34 = .ok (.idiv, 1) := by decide +kernel
theorem d_Mo_weightOf_35 : decode b_Mo_weightOf 35 = .ok (.imul, 1) := by decide +kernel
theorem d_Mo_weightOf_36 : decode b_Mo_weightOf 36 = .ok (.iconst 1, 1) := by decide +kernel
theorem d_Mo_weightOf_37 : decode b_Mo_weightOf 37 = .ok (.iadd, 1) := by decide +kernel
theorem d_Mo_weightOf_38 : decode b_Mo_weightOf 38 = .ok (.iaload, 1) := by decide +kernel
theorem d_Mo_weightOf_39 : decode b_Mo_weightOf 39 = .ok (.imul, 1) := by decide +kernel
theorem d_Mo_weightOf_40 : decode b_Mo_weightOf 40 = .ok (.i2l, 1) := by decide +kernel
theorem d_Mo_weightOf_41 : decode b_Mo_weightOf 41 = .ok (.lstore_n 1, 1) := by decide +kernel
theorem d_Mo_weightOf_42 : decode b_Mo_weightOf 42 = .ok (.iconst 0, 1) := by decide +kernel
theorem d_Mo_weightOf_43 : decode b_Mo_weightOf 43 = .ok (.istore_n 3, 1) := by decide +kernel
theorem d_Mo_weightOf_44 : decode b_Mo_weightOf 44 = .ok (.iload_n 3, 1) := by decide +kernel
theorem d_Mo_weightOf_45 : decode b_Mo_weightOf 45 = .ok (.aload_n 0, 1) := by decide +kernel
theorem d_Mo_weightOf_46 : decode b_Mo_weightOf 46 = .ok (.getfield 82, 3) := by decide +kernel
theorem d_Mo_weightOf_49 : decode b_Mo_weightOf 49 = .ok (.if_icmp .ge 148, 3) := by decide +kernel
theorem d_Mo_weightOf_52 : decode b_Mo_weightOf 52 = .ok (.aload_n 0, 1) := by decide +kernel
theorem d_Mo_weightOf_53 : decode b_Mo_weightOf 53 = .ok (.getfield 28, 3) := by decide +kernel
theorem d_Mo_weightOf_56 : decode b_Mo_weightOf 56 = .ok (.iload_n 3, 1) := by decide +kernel
theorem d_Mo_weightOf_57 : decode b_Mo_weightOf 57 = .ok (.iaload, 1) := by decide +kernel
theorem d_Mo_weightOf_58 : decode b_Mo_weightOf 58 = .ok (.iconst 2, 1) := by decide +kernel
theorem d_Mo_weightOf_59 : decode b_Mo_weightOf 59 = .ok (.idiv, 1) := by decide +kernel
theorem d_Mo_weightOf_60 : decode b_Mo_weightOf 60 = .ok (.istore 4, 2) := by decide +kernel
theorem d_Mo_weightOf_62 : decode b_Mo_weightOf 62 = .ok (.lload_n 1, 1) := by decide +kernel
theorem d_Mo_weightOf_63 : decode b_Mo_weightOf 63 = .ok (.aload_n 0, 1) := by decide +kernel
theorem d_Mo_weightOf_64 : decode b_Mo_weightOf 64 = .ok (.iload 4, 2) := by decide +kernel
theorem d_Mo_weightOf_66 : decode b_Mo_weightOf 66 = .ok (.iload_n 3, 1) := by decide +kernel
theorem d_Mo_weightOf_67 : decode b_Mo_weightOf 67 = .ok (.invokevirtual 105, 3) := by decide +kernel
theorem d_Mo_weightOf_70 : decode b_Mo_weightOf 70 = .ok (.i2l, 1) := by decide +kernel
theorem d_Mo_weightOf_71 : decode b_Mo_weightOf 71 = .ok (.lmul, 1) := by decide +kernel
theorem d_Mo_weightOf_72 : decode b_Mo_weightOf 72 = .ok (.lstore_n 1, 1) := by decide +kernel
theorem d_Mo_weightOf_73 : decode b_Mo_weightOf 73 = .ok (.aload_n 0, 1) := by decide +kernel
theorem d_Mo_weightOf_74 : decode b_Mo_weightOf 74 = .ok (.getfield 25, 3) := by decide +kernel
theorem d_Mo_weightOf_77 : decode b_Mo_weightOf 77 = .ok (.iload_n 3, 1) := by decide +kernel
theorem d_Mo_weightOf_78 : decode b_Mo_weightOf 78 = .ok (.iaload, 1) := by decide +kernel
theorem d_Mo_weightOf_79 : decode b_Mo_weightOf 79 = .ok (.ifCond .lt 16, 3) := by decide +kernel
theorem d_Mo_weightOf_82 : decode b_Mo_weightOf 82 = .ok (.aload_n 0, 1) := by decide +kernel
theorem d_Mo_weightOf_83 : decode b_Mo_weightOf 83 = .ok (.getfield 25, 3) := by decide +kernel
theorem d_Mo_weightOf_86 : decode b_Mo_weightOf 86 = .ok (.iload_n 3, 1) := by decide +kernel
theorem d_Mo_weightOf_87 : decode b_Mo_weightOf 87 = .ok (.iaload, 1) := by decide +kernel
theorem d_Mo_weightOf_88 : decode b_Mo_weightOf 88 = .ok (.iload 4, 2) := by decide +kernel
theorem d_Mo_weightOf_90 : decode b_Mo_weightOf 90 = .ok (.if_icmp .eq 5, 3) := by decide +kernel
theorem d_Mo_weightOf_93 : decode b_Mo_weightOf 93 = .ok (.lconst 0, 1) := by decide +kernel
theorem d_Mo_weightOf_94 : decode b_Mo_weightOf 94 = .ok (.lstore_n 1, 1) := by decide +kernel
theorem d_Mo_weightOf_95 : decode b_Mo_weightOf 95 = .ok (.iload_n 3, 1) := by decide +kernel
theorem d_Mo_weightOf_96 : decode b_Mo_weightOf 96 = .ok (.iconst 1, 1) := by decide +kernel
theorem d_Mo_weightOf_97 : decode b_Mo_weightOf 97 = .ok (.iadd, 1) := by decide +kernel
theorem d_Mo_weightOf_98 : decode b_Mo_weightOf 98 = .ok (.aload_n 0, 1) := by decide +kernel
theorem d_Mo_weightOf_99 : decode b_Mo_weightOf 99 = .ok (.getfield 82, 3) := by decide +kernel
theorem d_Mo_weightOf_102 : decode b_Mo_weightOf 102 = .ok (.if_icmp .eq 16, 3) := by decide +kernel
theorem d_Mo_weightOf_105 : decode b_Mo_weightOf 105 = .ok (.aload_n 0, 1) := by decide +kernel
theorem d_Mo_weightOf_106 : decode b_Mo_weightOf 106 = .ok (.getfield 28, 3) := by decide +kernel
theorem d_Mo_weightOf_109 : decode b_Mo_weightOf 109 = .ok (.iload_n 3, 1) := by decide +kernel
theorem d_Mo_weightOf_110 : decode b_Mo_weightOf 110 = .ok (.iconst 1, 1) := by decide +kernel
theorem d_Mo_weightOf_111 : decode b_Mo_weightOf 111 = .ok (.iadd, 1) := by decide +kernel
theorem d_Mo_weightOf_112 : decode b_Mo_weightOf 112 = .ok (.iaload, 1) := by decide +kernel
theorem d_Mo_weightOf_113 : decode b_Mo_weightOf 113 = .ok (.iconst 2, 1) := by decide +kernel
theorem d_Mo_weightOf_114 : decode b_Mo_weightOf 114 = .ok (.irem, 1) := by decide +kernel
theorem d_Mo_weightOf_115 : decode b_Mo_weightOf 115 = .ok (.ifCond .ne 7, 3) := by decide +kernel
theorem d_Mo_weightOf_118 : decode b_Mo_weightOf 118 = .ok (.iconst 1, 1) := by decide +kernel
theorem d_Mo_weightOf_119 : decode b_Mo_weightOf 119 = .ok (.goto 4, 3) := by decide +kernel
theorem d_Mo_weightOf_122 : decode b_Mo_weightOf 122 = .ok (.iconst 0, 1) := by decide +kernel
theorem d_Mo_weightOf_123 : decode b_Mo_weightOf 123 = .ok (.istore 5, 2) := by decide +kernel
theorem d_Mo_weightOf_125 : decode b_Mo_weightOf 125 = .ok (.iload 5, 2) := by decide +kernel
theorem d_Mo_weightOf_127 : decode b_Mo_weightOf 127 = .ok (.ifCond .eq 25, 3) := by decide +kernel
theorem d_Mo_weightOf_130 : decode b_Mo_weightOf 130 = .ok (.lload_n 1, 1) := by decide +kernel
theorem d_Mo_weightOf_131 : decode b_Mo_weightOf 131 = .ok (.aload_n 0, 1) := by decide +kernel
theorem d_Mo_weightOf_132 : decode b_Mo_weightOf 132 = .ok (.getfield 7, 3) := by decide +kernel
theorem d_Mo_weightOf_135 : decode b_Mo_weightOf 135 = .ok (.bipush 9, 2) := by decide +kernel
theorem d_Mo_weightOf_137 : decode b_Mo_weightOf 137 = .ok (.iload 4, 2) := by decide +kernel
theorem d_Mo_weightOf_139 : decode b_Mo_weightOf 139 = .ok (.imul, 1) := by decide +kernel
theorem d_Mo_weightOf_140 : decode b_Mo_weightOf 140 = .ok (.iconst 1, 1) := by decide +kernel
theorem d_Mo_weightOf_141 : decode b_Mo_weightOf 141 = .ok (.iadd, 1) := by decide +kernel
theorem d_Mo_weightOf_142 : decode b_Mo_weightOf 142 = .ok (.aload_n 0, 1) := by decide +kernel
theorem d_Mo_weightOf_143 : decode b_Mo_weightOf 143 = .ok (.iload_n 3, 1) := by decide +kernel
theorem d_Mo_weightOf_144 : decode b_Mo_weightOf 144 = .ok (.invokevirtual 101, 3) := by decide +kernel
theorem d_Mo_weightOf_147 : decode b_Mo_weightOf 147 = .ok (.iadd, 1) := by decide +kernel
theorem d_Mo_weightOf_148 : decode b_Mo_weightOf 148 = .ok (.iaload, 1) := by decide +kernel
theorem d_Mo_weightOf_149 : decode b_Mo_weightOf 149 = .ok (.i2l, 1) := by decide +kernel
theorem d_Mo_weightOf_150 : decode b_Mo_weightOf 150 = .ok (.lmul, 1) := by decide +kernel
theorem d_Mo_weightOf_151 : decode b_Mo_weightOf 151 = .ok (.lstore_n 1, 1) := by decide +kernel
theorem d_Mo_weightOf_152 : decode b_Mo_weightOf 152 = .ok (.iload 5, 2) := by decide +kernel
theorem d_Mo_weightOf_154 : decode b_Mo_weightOf 154 = .ok (.ifCond .eq 37, 3) := by decide +kernel
theorem d_Mo_weightOf_157 : decode b_Mo_weightOf 157 = .ok (.iload_n 3, 1) := by decide +kernel
theorem d_Mo_weightOf_158 : decode b_Mo_weightOf 158 = .ok (.iconst 1, 1) := by decide +kernel
theorem d_Mo_weightOf_159 : decode b_Mo_weightOf 159 = .ok (.iadd, 1) := by decide +kernel
theorem d_Mo_weightOf_160 : decode b_Mo_weightOf 160 = .ok (.aload_n 0, 1) := by decide +kernel
theorem d_Mo_weightOf_161 : decode b_Mo_weightOf 161 = .ok (.getfield 82, 3) := by decide +kernel
theorem d_Mo_weightOf_164 : decode b_Mo_weightOf 164 = .ok (.if_icmp .ge 27, 3) := by decide +kernel
theorem d_Mo_weightOf_167 : decode b_Mo_weightOf 167 = .ok (.lload_n 1, 1) := by decide +kernel
theorem d_Mo_weightOf_168 : decode b_Mo_weightOf 168 = .ok (.aload_n 0, 1) := by decide +kernel
theorem d_Mo_weightOf_169 : decode b_Mo_weightOf 169 = .ok (.getfield 13, 3) := by decide +kernel
theorem d_Mo_weightOf_172 : decode b_Mo_weightOf 172 = .ok (.iconst 4, 1) := by decide +kernel
theorem d_Mo_weightOf_173 : decode b_Mo_weightOf 173 = .ok (.iload 4, 2) := by decide +kernel
theorem d_Mo_weightOf_175 : decode b_Mo_weightOf 175 = .ok (.imul, 1) := by decide +kernel
theorem d_Mo_weightOf_176 : decode b_Mo_weightOf 176 = .ok (.aload_n 0, 1) := by decide +kernel
theorem d_Mo_weightOf_177 : decode b_Mo_weightOf 177 = .ok (.getfield 28, 3) := by decide +kernel
theorem d_Mo_weightOf_180 : decode b_Mo_weightOf 180 = .ok (.iload_n 3, 1) := by decide +kernel
theorem d_Mo_weightOf_181 : decode b_Mo_weightOf 181 = .ok (.iconst 1, 1) := by decide +kernel
theorem d_Mo_weightOf_182 : decode b_Mo_weightOf 182 = .ok (.iadd, 1) := by decide +kernel
theorem d_Mo_weightOf_183 : decode b_Mo_weightOf 183 = .ok (.iaload, 1) := by decide +kernel
theorem d_Mo_weightOf_184 : decode b_Mo_weightOf 184 = .ok (.iconst 2, 1) := by decide +kernel
theorem d_Mo_weightOf_185 : decode b_Mo_weightOf 185 = .ok (.idiv, 1) := by decide +kernel
theorem d_Mo_weightOf_186 : decode b_Mo_weightOf 186 = .ok (.iadd, 1) := by decide +kernel
theorem d_Mo_weightOf_187 : decode b_Mo_weightOf 187 = .ok (.iaload, 1) := by decide +kernel
theorem d_Mo_weightOf_188 : decode b_Mo_weightOf 188 = .ok (.i2l, 1) := by decide +kernel
theorem d_Mo_weightOf_189 : decode b_Mo_weightOf 189 = .ok (.lmul, 1) := by decide +kernel
theorem d_Mo_weightOf_190 : decode b_Mo_weightOf 190 = .ok (.lstore_n 1, 1) := by decide +kernel
theorem d_Mo_weightOf_191 : decode b_Mo_weightOf 191 = .ok (.iinc 3 1, 3) := by decide +kernel
theorem d_Mo_weightOf_194 : decode b_Mo_weightOf 194 = .ok (.goto (-150), 3) := by decide +kernel
theorem d_Mo_weightOf_197 : decode b_Mo_weightOf 197 = .ok (.lload_n 1, 1) := by decide +kernel
theorem d_Mo_weightOf_198 : decode b_Mo_weightOf 198 = .ok (.lreturn, 1) := by decide +kernel
theorem d_Mo_show_0 : decode b_Mo_show 0 = .ok (.aload_n 0, 1) := by decide +kernel
theorem d_Mo_show_1 : decode b_Mo_show 1 = .ok (.getfield 22, 3) := by decide +kernel
theorem d_Mo_show_4 : decode b_Mo_show 4 = .ok (.iload_n 2, 1) := by decide +kernel
theorem d_Mo_show_5 : decode b_Mo_show 5 = .ok (.iaload, 1) := by decide +kernel
theorem d_Mo_show_6 : decode b_Mo_show 6 = .ok (.istore_n 3, 1) := by decide +kernel
theorem d_Mo_show_7 : decode b_Mo_show 7 = .ok (.bipush 9, 2) := by decide +kernel
theorem d_Mo_show_9 : decode b_Mo_show 9 = .ok (.iload_n 1, 1) := by decide +kernel
theorem d_Mo_show_10 : decode b_Mo_show 10 = .ok (.imul, 1) := by decide +kernel
theorem d_Mo_show_11 : decode b_Mo_show 11 = .ok (.iconst 5, 1) := by decide +kernel
theorem d_Mo_show_12 : decode b_Mo_show 12 = .ok (.iadd, 1) := by decide +kernel
theorem d_Mo_show_13 : decode b_Mo_show 13 = .ok (.istore 4, 2) := by decide +kernel
theorem d_Mo_show_15 : decode b_Mo_show 15 = .ok (.iload_n 3, 1) := by decide +kernel
theorem d_Mo_show_16 : decode b_Mo_show 16 = .ok (.ifCond .lt 15, 3) := by decide +kernel
theorem d_Mo_show_19 : decode b_Mo_show 19 = .ok (.aload_n 0, 1) := by decide +kernel
theorem d_Mo_show_20 : decode b_Mo_show 20 = .ok (.getfield 7, 3) := by decide +kernel
theorem d_Mo_show_23 : decode b_Mo_show 23 = .ok (.iload 4, 2) := by decide +kernel
theorem d_Mo_show_25 : decode b_Mo_show 25 = .ok (.iload_n 3, 1) := by decide +kernel
theorem d_Mo_show_26 : decode b_Mo_show 26 = .ok (.iadd, 1) := by decide +kernel
theorem d_Mo_show_27 : decode b_Mo_show 27 = .ok (.iaload, 1) := by decide +kernel
theorem d_Mo_show_28 : decode b_Mo_show 28 = .ok (.goto 40, 3) := by decide +kernel
theorem d_Mo_show_31 : decode b_Mo_show 31 = .ok (.aload_n 0, 1) := by decide +kernel
theorem d_Mo_show_32 : decode b_Mo_show 32 = .ok (.getfield 7, 3) := by decide +kernel
theorem d_Mo_show_35 : decode b_Mo_show 35 = .ok (.iload 4, 2) := by decide +kernel
theorem d_Mo_show_37 : decode b_Mo_show 37 = .ok (.iaload, 1) := by decide +kernel
theorem d_Mo_show_38 : decode b_Mo_show 38 = .ok (.aload_n 0, 1) := by decide +kernel
theorem d_Mo_show_39 : decode b_Mo_show 39 = .ok (.getfield 7, 3) := by decide +kernel
theorem d_Mo_show_42 : decode b_Mo_show 42 = .ok (.iload 4, 2) := by decide +kernel
theorem d_Mo_show_44 : decode b_Mo_show 44 = .ok (.iconst 1, 1) := by decide +kernel
theorem d_Mo_show_45 : decode b_Mo_show 45 = .ok (.iadd, 1) := by decide +kernel
theorem d_Mo_show_46 : decode b_Mo_show 46 = .ok (.iaload, 1) := by decide +kernel
theorem d_Mo_show_47 : decode b_Mo_show 47 = .ok (.iadd, 1) := by decide +kernel
theorem d_Mo_show_48 : decode b_Mo_show 48 = .ok (.aload_n 0, 1) := by decide +kernel
theorem d_Mo_show_49 : decode b_Mo_show 49 = .ok (.getfield 7, 3) := by decide +kernel
theorem d_Mo_show_52 : decode b_Mo_show 52 = .ok (.iload 4, 2) := by decide +kernel
theorem d_Mo_show_54 : decode b_Mo_show 54 = .ok (.iconst 2, 1) := by decide +kernel
theorem d_Mo_show_55 : decode b_Mo_show 55 = .ok (.iadd, 1) := by decide +kernel
theorem d_Mo_show_56 : decode b_Mo_show 56 = .ok (.iaload, 1) := by decide +kernel
theorem d_Mo_show_57 : decode b_Mo_show 57 = .ok (.iadd, 1) := by decide +kernel
theorem d_Mo_show_58 : decode b_Mo_show 58 = .ok (.aload_n 0, 1) := by decide +kernel
theorem d_Mo_show_59 : decode b_Mo_show 59 = .ok (.getfield 7, 3) := by decide +kernel
theorem d_Mo_show_62 : decode b_Mo_show 62 = .ok (.iload 4, 2) := by decide +kernel
theorem d_Mo_show_64 : decode b_Mo_show 64 = .ok (.iconst 3, 1) := by decide +kernel
theorem d_Mo_show_65 : decode b_Mo_show 65 = .ok (.iadd, 1) := by decide +kernel
theorem d_Mo_show_66 : decode b_Mo_show 66 = .ok (.iaload, 1) := by decide +kernel
theorem d_Mo_show_67 : decode b_Mo_show 67 = .ok (.iadd, 1) := by decide +kernel
theorem d_Mo_show_68 : decode b_Mo_show 68 = .ok (.ireturn, 1) := by decide +kernel
theorem d_Mo_add_0 : decode b_Mo_add 0 = .ok (.aload_n 0, 1) := by decide +kernel
theorem d_Mo_add_1 : decode b_Mo_add 1 = .ok (.dup, 1) := by decide +kernel
theorem d_Mo_add_2 : decode b_Mo_add 2 = .ok (.getfield 116, 3) := by decide +kernel
theorem d_Mo_add_5 : decode b_Mo_add 5 = .ok (.lload_n 1, 1) := by decide +kernel
theorem d_Mo_add_6 : decode b_Mo_add 6 = .ok (.ladd, 1) := by decide +kernel
theorem d_Mo_add_7 : decode b_Mo_add 7 = .ok (.putfield 116, 3) := by decide +kernel
theorem d_Mo_add_10 : decode b_Mo_add 10 = .ok (.aload_n 0, 1) := by decide +kernel
theorem d_Mo_add_11 : decode b_Mo_add 11 = .ok (.dup, 1) := by decide +kernel
theorem d_Mo_add_12 : decode b_Mo_add 12 = .ok (.getfield 120, 3) := by decide +kernel
theorem d_Mo_add_15 : decode b_Mo_add 15 = .ok (.iconst 1, 1) := by decide +kernel
theorem d_Mo_add_16 : decode b_Mo_add 16 = .ok (.iadd, 1) := by decide +kernel
theorem d_Mo_add_17 : decode b_Mo_add 17 = .ok (.putfield 120, 3) := by decide +kernel
theorem d_Mo_add_20 : decode b_Mo_add 20 = .ok (.aload_n 0, 1) := by decide +kernel
theorem d_Mo_add_21 : decode b_Mo_add 21 = .ok (.lload_n 1, 1) := by decide +kernel
theorem d_Mo_add_22 : decode b_Mo_add 22 = .ok (.invokevirtual 135, 3) := by decide +kernel
theorem d_Mo_add_25 : decode b_Mo_add 25 = .ok (.iconst 0, 1) := by decide +kernel
theorem d_Mo_add_26 : decode b_Mo_add 26 = .ok (.istore_n 3, 1) := by decide +kernel
theorem d_Mo_add_27 : decode b_Mo_add 27 = .ok (.iload_n 3, 1) := by decide +kernel
theorem d_Mo_add_28 : decode b_Mo_add 28 = .ok (.aload_n 0, 1) := by decide +kernel
theorem d_Mo_add_29 : decode b_Mo_add 29 = .ok (.getfield 82, 3) := by decide +kernel
theorem d_Mo_add_32 : decode b_Mo_add 32 = .ok (.if_icmp .ge 116, 3) := by decide +kernel
theorem d_Mo_add_35 : decode b_Mo_add 35 = .ok (.aload_n 0, 1) := by decide +kernel
theorem d_Mo_add_36 : decode b_Mo_add 36 = .ok (.getfield 28, 3) := by decide +kernel
theorem d_Mo_add_39 : decode b_Mo_add 39 = .ok (.iload_n 3, 1) := by decide +kernel
theorem d_Mo_add_40 : decode b_Mo_add 40 = .ok (.iaload, 1) := by decide +kernel
theorem d_Mo_add_41 : decode b_Mo_add 41 = .ok (.iconst 2, 1) := by decide +kernel
theorem d_Mo_add_42 : decode b_Mo_add 42 = .ok (.idiv, 1) := by decide +kernel
theorem d_Mo_add_43 : decode b_Mo_add 43 = .ok (.istore 4, 2) := by decide +kernel
theorem d_Mo_add_45 : decode b_Mo_add 45 = .ok (.aload_n 0, 1) := by decide +kernel
theorem d_Mo_add_46 : decode b_Mo_add 46 = .ok (.getfield 31, 3) := by decide +kernel
theorem d_Mo_add_49 : decode b_Mo_add 49 = .ok (.iconst 4, 1) := by decide +kernel
theorem d_Mo_add_50 : decode b_Mo_add 50 = .ok (.iload_n 3, 1) := by decide +kernel
theorem d_Mo_add_51 : decode b_Mo_add 51 = .ok (.imul, 1) := by decide +kernel
theorem d_Mo_add_52 : decode b_Mo_add 52 = .ok (.iload 4, 2) := by decide +kernel
theorem d_Mo_add_54 : decode b_Mo_add 54 = .ok (.iadd, 1) := by decide +kernel
theorem d_Mo_add_55 : decode b_Mo_add 55 = .ok (.dup2, 1) := by decide +kernel
theorem d_Mo_add_56 : decode b_Mo_add 56 = .ok (.laload, 1) := by decide +kernel
theorem d_Mo_add_57 : decode b_Mo_add 57 = .ok (.lload_n 1, 1) := by decide +kernel
theorem d_Mo_add_58 : decode b_Mo_add 58 = .ok (.ladd, 1) := by decide +kernel
theorem d_Mo_add_59 : decode b_Mo_add 59 = .ok (.lastore, 1) := by decide +kernel
theorem d_Mo_add_60 : decode b_Mo_add 60 = .ok (.aload_n 0, 1) := by decide +kernel
theorem d_Mo_add_61 : decode b_Mo_add 61 = .ok (.getfield 35, 3) := by decide +kernel
theorem d_Mo_add_64 : decode b_Mo_add 64 = .ok (.iconst 4, 1) := by decide +kernel
theorem d_Mo_add_65 : decode b_Mo_add 65 = .ok (.iload_n 3, 1) := by decide +kernel
theorem d_Mo_add_66 : decode b_Mo_add 66 = .ok (.imul, 1) := by decide +kernel
theorem d_Mo_add_67 : decode b_Mo_add 67 = .ok (.iload 4, 2) := by decide +kernel
theorem d_Mo_add_69 : decode b_Mo_add 69 = .ok (.iadd, 1) := by decide +kernel
theorem d_Mo_add_70 : decode b_Mo_add 70 = .ok (.dup2, 1) := by decide +kernel
theorem d_Mo_add_71 : decode b_Mo_add 71 = .ok (.laload, 1) := by decide +kernel
theorem d_Mo_add_72 : decode b_Mo_add 72 = .ok (.aload_n 0, 1) := by decide +kernel
theorem d_Mo_add_73 : decode b_Mo_add 73 = .ok (.getfield 28, 3) := by decide +kernel
theorem d_Mo_add_76 : decode b_Mo_add 76 = .ok (.iload_n 3, 1) := by decide +kernel
theorem d_Mo_add_77 : decode b_Mo_add 77 = .ok (.iaload, 1) := by decide +kernel
theorem d_Mo_add_78 : decode b_Mo_add 78 = .ok (.iconst 2, 1) := by decide +kernel
theorem d_Mo_add_79 : decode b_Mo_add 79 = .ok (.irem, 1) := by decide +kernel
theorem d_Mo_add_80 : decode b_Mo_add 80 = .ok (.ifCond .ne 7, 3) := by decide +kernel
theorem d_Mo_add_83 : decode b_Mo_add 83 = .ok (.lload_n 1, 1) := by decide +kernel
theorem d_Mo_add_84 : decode b_Mo_add 84 = .ok (.goto 4, 3) := by decide +kernel
theorem d_Mo_add_87 : decode b_Mo_add 87 = .ok (.lconst 0, 1) := by decide +kernel
theorem d_Mo_add_88 : decode b_Mo_add 88 = .ok (.ladd, 1) := by decide +kernel
theorem d_Mo_add_89 : decode b_Mo_add 89 = .ok (.lastore, 1) := by decide +kernel
theorem d_Mo_add_90 : decode b_Mo_add 90 = .ok (.iload_n 3, 1) := by decide +kernel
theorem d_Mo_add_91 : decode b_Mo_add 91 = .ok (.iconst 1, 1) := by decide +kernel
theorem d_Mo_add_92 : decode b_Mo_add 92 = .ok (.iadd, 1) := by decide +kernel
theorem d_Mo_add_93 : decode b_Mo_add 93 = .ok (.aload_n 0, 1) := by decide +kernel
theorem d_Mo_add_94 : decode b_Mo_add 94 = .ok (.getfield 82, 3) := by decide +kernel
theorem d_Mo_add_97 : decode b_Mo_add 97 = .ok (.if_icmp .ge 45, 3) := by decide +kernel
theorem d_Mo_add_100 : decode b_Mo_add 100 = .ok (.aload_n 0, 1) := by decide +kernel
theorem d_Mo_add_101 : decode b_Mo_add 101 = .ok (.getfield 28, 3) := by decide +kernel
theorem d_Mo_add_104 : decode b_Mo_add 104 = .ok (.iload_n 3, 1) := by decide +kernel
theorem d_Mo_add_105 : decode b_Mo_add 105 = .ok (.iconst 1, 1) := by decide +kernel
theorem d_Mo_add_106 : decode b_Mo_add 106 = .ok (.iadd, 1) := by decide +kernel
theorem d_Mo_add_107 : decode b_Mo_add 107 = .ok (.iaload, 1) := by decide +kernel
theorem d_Mo_add_108 : decode b_Mo_add 108 = .ok (.iconst 2, 1) := by decide +kernel
theorem d_Mo_add_109 : decode b_Mo_add 109 = .ok (.irem, 1) := by decide +kernel
theorem d_Mo_add_110 : decode b_Mo_add 110 = .ok (.ifCond .ne 32, 3) := by decide +kernel
theorem d_Mo_add_113 : decode b_Mo_add 113 = .ok (.aload_n 0, 1) := by decide +kernel
theorem d_Mo_add_114 : decode b_Mo_add 114 = .ok (.getfield 38, 3) := by decide +kernel
theorem d_Mo_add_117 : decode b_Mo_add 117 = .ok (.bipush 16, 2) := by decide +kernel
theorem d_Mo_add_119 : decode b_Mo_add 119 = .ok (.iload_n 3, 1) := by decide +kernel
theorem d_Mo_add_120 : decode b_Mo_add 120 = .ok (.imul, 1) := by decide +kernel
theorem d_Mo_add_121 : decode b_Mo_add 121 = .ok (.iconst 4, 1) := by decide +kernel
theorem d_Mo_add_122 : decode b_Mo_add 122 = .ok (.iload 4, 2) := by decide +kernel
theorem d_Mo_add_124 : decode b_Mo_add 124 = .ok (.imul, 1) := by decide +kernel
theorem d_Mo_add_125 : decode b_Mo_add 125 = .ok (.iadd, 1) := by decide +kernel
theorem d_Mo_add_126 : decode b_Mo_add 126 = .ok (.aload_n 0, 1) := by decide +kernel
theorem d_Mo_add_127 : decode b_Mo_add 127 = .ok (.getfield 28, 3) := by decide +kernel
theorem d_Mo_add_130 : decode b_Mo_add 130 = .ok (.iload_n 3, 1) := by decide +kernel
theorem d_Mo_add_131 : decode b_Mo_add 131 = .ok (.iconst 1, 1) := by decide +kernel
theorem d_Mo_add_132 : decode b_Mo_add 132 = .ok (.iadd, 1) := by decide +kernel
theorem d_Mo_add_133 : decode b_Mo_add 133 = .ok (.iaload, 1) := by decide +kernel
theorem d_Mo_add_134 : decode b_Mo_add 134 = .ok (.iconst 2, 1) := by decide +kernel
theorem d_Mo_add_135 : decode b_Mo_add 135 = .ok (.idiv, 1) := by decide +kernel
theorem d_Mo_add_136 : decode b_Mo_add 136 = .ok (.iadd, 1) := by decide +kernel
theorem d_Mo_add_137 : decode b_Mo_add 137 = .ok (.dup2, 1) := by decide +kernel
theorem d_Mo_add_138 : decode b_Mo_add 138 = .ok (.laload, 1) := by decide +kernel
theorem d_Mo_add_139 : decode b_Mo_add 139 = .ok (.lload_n 1, 1) := by decide +kernel
theorem d_Mo_add_140 : decode b_Mo_add 140 = .ok (.ladd, 1) := by decide +kernel
theorem d_Mo_add_141 : decode b_Mo_add 141 = .ok (.lastore, 1) := by decide +kernel
theorem d_Mo_add_142 : decode b_Mo_add 142 = .ok (.iinc 3 1, 3) := by decide +kernel
theorem d_Mo_add_145 : decode b_Mo_add 145 = .ok (.goto (-118), 3) := by decide +kernel
theorem d_Mo_add_148 : decode b_Mo_add 148 = .ok (.return_, 1) := by decide +kernel
theorem d_Mo_keep_0 : decode b_Mo_keep 0 = .ok (.aload_n 0, 1) := by decide +kernel
theorem d_Mo_keep_1 : decode b_Mo_keep 1 = .ok (.getfield 113, 3) := by decide +kernel
theorem d_Mo_keep_4 : decode b_Mo_keep 4 = .ok (.istore_n 3, 1) := by decide +kernel
theorem d_Mo_keep_5 : decode b_Mo_keep 5 = .ok (.iload_n 3, 1) := by decide +kernel
theorem d_Mo_keep_6 : decode b_Mo_keep 6 = .ok (.ifCond .le 78, 3) := by decide +kernel
theorem d_Mo_keep_9 : decode b_Mo_keep 9 = .ok (.aload_n 0, 1) := by decide +kernel
theorem d_Mo_keep_10 : decode b_Mo_keep 10 = .ok (.getfield 41, 3) := by decide +kernel
theorem d_Mo_keep_13 : decode b_Mo_keep 13 = .ok (.iload_n 3, 1) := by decide +kernel
theorem d_Mo_keep_14 : decode b_Mo_keep 14 = .ok (.iconst 1, 1) := by decide +kernel
theorem d_Mo_keep_15 : decode b_Mo_keep 15 = .ok (.isub, 1) := by decide +kernel
theorem d_Mo_keep_16 : decode b_Mo_keep 16 = .ok (.laload, 1) := by decide +kernel
theorem d_Mo_keep_17 : decode b_Mo_keep 17 = .ok (.lload_n 1, 1) := by decide +kernel
theorem d_Mo_keep_18 : decode b_Mo_keep 18 = .ok (.lcmp, 1) := by decide +kernel
theorem d_Mo_keep_19 : decode b_Mo_keep 19 = .ok (.ifCond .ge 65, 3) := by decide +kernel
theorem d_Mo_keep_22 : decode b_Mo_keep 22 = .ok (.aload_n 0, 1) := by decide +kernel
theorem d_Mo_keep_23 : decode b_Mo_keep 23 = .ok (.getfield 41, 3) := by decide +kernel
theorem d_Mo_keep_26 : decode b_Mo_keep 26 = .ok (.iload_n 3, 1) := by decide +kernel
theorem d_Mo_keep_27 : decode b_Mo_keep 27 = .ok (.aload_n 0, 1) := by decide +kernel
theorem d_Mo_keep_28 : decode b_Mo_keep 28 = .ok (.getfield 41, 3) := by decide +kernel
theorem d_Mo_keep_31 : decode b_Mo_keep 31 = .ok (.iload_n 3, 1) := by decide +kernel
theorem d_Mo_keep_32 : decode b_Mo_keep 32 = .ok (.iconst 1, 1) := by decide +kernel
theorem d_Mo_keep_33 : decode b_Mo_keep 33 = .ok (.isub, 1) := by decide +kernel
theorem d_Mo_keep_34 : decode b_Mo_keep 34 = .ok (.laload, 1) := by decide +kernel
theorem d_Mo_keep_35 : decode b_Mo_keep 35 = .ok (.lastore, 1) := by decide +kernel
theorem d_Mo_keep_36 : decode b_Mo_keep 36 = .ok (.iconst 0, 1) := by decide +kernel
theorem d_Mo_keep_37 : decode b_Mo_keep 37 = .ok (.istore 4, 2) := by decide +kernel
theorem d_Mo_keep_39 : decode b_Mo_keep 39 = .ok (.iload 4, 2) := by decide +kernel
theorem d_Mo_keep_41 : decode b_Mo_keep 41 = .ok (.bipush 6, 2) := by decide +kernel
theorem d_Mo_keep_43 : decode b_Mo_keep 43 = .ok (.if_icmp .ge 35, 3) := by decide +kernel
theorem d_Mo_keep_46 : decode b_Mo_keep 46 = .ok (.aload_n 0, 1) := by decide +kernel
theorem d_Mo_keep_47 : decode b_Mo_keep 47 = .ok (.getfield 44, 3) := by decide +kernel
theorem d_Mo_keep_50 : decode b_Mo_keep 50 = .ok (.bipush 6, 2) := by decide +kernel
theorem d_Mo_keep_52 : decode b_Mo_keep 52 = .ok (.iload_n 3, 1) := by decide +kernel
theorem d_Mo_keep_53 : decode b_Mo_keep 53 = .ok (.imul, 1) := by decide +kernel
theorem d_Mo_keep_54 : decode b_Mo_keep 54 = .ok (.iload 4, 2) := by decide +kernel
theorem d_Mo_keep_56 : decode b_Mo_keep 56 = .ok (.iadd, 1) := by decide +kernel
theorem d_Mo_keep_57 : decode b_Mo_keep 57 = .ok (.aload_n 0, 1) := by decide +kernel
theorem d_Mo_keep_58 : decode b_Mo_keep 58 = .ok (.getfield 44, 3) := by decide +kernel
theorem d_Mo_keep_61 : decode b_Mo_keep 61 = .ok (.bipush 6, 2) := by decide +kernel
theorem d_Mo_keep_63 : decode b_Mo_keep 63 = .ok (.iload_n 3, 1) := by decide +kernel
theorem d_Mo_keep_64 : decode b_Mo_keep 64 = .ok (.iconst 1, 1) := by decide +kernel
theorem d_Mo_keep_65 : decode b_Mo_keep 65 = .ok (.isub, 1) := by decide +kernel
theorem d_Mo_keep_66 : decode b_Mo_keep 66 = .ok (.imul, 1) := by decide +kernel
theorem d_Mo_keep_67 : decode b_Mo_keep 67 = .ok (.iload 4, 2) := by decide +kernel
theorem d_Mo_keep_69 : decode b_Mo_keep 69 = .ok (.iadd, 1) := by decide +kernel
theorem d_Mo_keep_70 : decode b_Mo_keep 70 = .ok (.iaload, 1) := by decide +kernel
theorem d_Mo_keep_71 : decode b_Mo_keep 71 = .ok (.iastore, 1) := by decide +kernel
theorem d_Mo_keep_72 : decode b_Mo_keep 72 = .ok (.iinc 4 1, 3) := by decide +kernel
theorem d_Mo_keep_75 : decode b_Mo_keep 75 = .ok (.goto (-36), 3) := by decide +kernel
theorem d_Mo_keep_78 : decode b_Mo_keep 78 = .ok (.iinc 3 (-1), 3) := by decide +kernel
theorem d_Mo_keep_81 : decode b_Mo_keep 81 = .ok (.goto (-76), 3) := by decide +kernel
theorem d_Mo_keep_84 : decode b_Mo_keep 84 = .ok (.aload_n 0, 1) := by decide +kernel
theorem d_Mo_keep_85 : decode b_Mo_keep 85 = .ok (.getfield 41, 3) := by decide +kernel
theorem d_Mo_keep_88 : decode b_Mo_keep 88 = .ok (.iload_n 3, 1) := by decide +kernel
theorem d_Mo_keep_89 : decode b_Mo_keep 89 = .ok (.lload_n 1, 1) := by decide +kernel
theorem d_Mo_keep_90 : decode b_Mo_keep 90 = .ok (.lastore, 1) := by decide +kernel
theorem d_Mo_keep_91 : decode b_Mo_keep 91 = .ok (.iconst 0, 1) := by decide +kernel
theorem d_Mo_keep_92 : decode b_Mo_keep 92 = .ok (.istore 4, 2) := by decide +kernel
theorem d_Mo_keep_94 : decode b_Mo_keep 94 = .ok (.iload 4, 2) := by decide +kernel
theorem d_Mo_keep_96 : decode b_Mo_keep 96 = .ok (.aload_n 0, 1) := by decide +kernel
theorem d_Mo_keep_97 : decode b_Mo_keep 97 = .ok (.getfield 82, 3) := by decide +kernel
theorem d_Mo_keep_100 : decode b_Mo_keep 100 = .ok (.if_icmp .ge 28, 3) := by decide +kernel
theorem d_Mo_keep_103 : decode b_Mo_keep 103 = .ok (.aload_n 0, 1) := by decide +kernel
theorem d_Mo_keep_104 : decode b_Mo_keep 104 = .ok (.getfield 44, 3) := by decide +kernel
theorem d_Mo_keep_107 : decode b_Mo_keep 107 = .ok (.bipush 6, 2) := by decide +kernel
theorem d_Mo_keep_109 : decode b_Mo_keep 109 = .ok (.iload_n 3, 1) := by decide +kernel
theorem d_Mo_keep_110 : decode b_Mo_keep 110 = .ok (.imul, 1) := by decide +kernel
theorem d_Mo_keep_111 : decode b_Mo_keep 111 = .ok (.iload 4, 2) := by decide +kernel
theorem d_Mo_keep_113 : decode b_Mo_keep 113 = .ok (.iadd, 1) := by decide +kernel
theorem d_Mo_keep_114 : decode b_Mo_keep 114 = .ok (.aload_n 0, 1) := by decide +kernel
theorem d_Mo_keep_115 : decode b_Mo_keep 115 = .ok (.getfield 28, 3) := by decide +kernel
theorem d_Mo_keep_118 : decode b_Mo_keep 118 = .ok (.iload 4, 2) := by decide +kernel
theorem d_Mo_keep_120 : decode b_Mo_keep 120 = .ok (.iaload, 1) := by decide +kernel
theorem d_Mo_keep_121 : decode b_Mo_keep 121 = .ok (.iastore, 1) := by decide +kernel
theorem d_Mo_keep_122 : decode b_Mo_keep 122 = .ok (.iinc 4 1, 3) := by decide +kernel
theorem d_Mo_keep_125 : decode b_Mo_keep 125 = .ok (.goto (-31), 3) := by decide +kernel
theorem d_Mo_keep_128 : decode b_Mo_keep 128 = .ok (.aload_n 0, 1) := by decide +kernel
theorem d_Mo_keep_129 : decode b_Mo_keep 129 = .ok (.aload_n 0, 1) := by decide +kernel
theorem d_Mo_keep_130 : decode b_Mo_keep 130 = .ok (.getfield 113, 3) := by decide +kernel
theorem d_Mo_keep_133 : decode b_Mo_keep 133 = .ok (.bipush 10, 2) := by decide +kernel
theorem d_Mo_keep_135 : decode b_Mo_keep 135 = .ok (.if_icmp .ge 12, 3) := by decide +kernel
theorem d_Mo_keep_138 : decode b_Mo_keep 138 = .ok (.aload_n 0, 1) := by decide +kernel
theorem d_Mo_keep_139 : decode b_Mo_keep 139 = .ok (.getfield 113, 3) := by decide +kernel
theorem d_Mo_keep_142 : decode b_Mo_keep 142 = .ok (.iconst 1, 1) := by decide +kernel
theorem d_Mo_keep_143 : decode b_Mo_keep 143 = .ok (.iadd, 1) := by decide +kernel
theorem d_Mo_keep_144 : decode b_Mo_keep 144 = .ok (.goto 5, 3) := by decide +kernel
theorem d_Mo_keep_147 : decode b_Mo_keep 147 = .ok (.bipush 10, 2) := by decide +kernel
theorem d_Mo_keep_149 : decode b_Mo_keep 149 = .ok (.putfield 113, 3) := by decide +kernel
theorem d_Mo_keep_152 : decode b_Mo_keep 152 = .ok (.return_, 1) := by decide +kernel
theorem d_Mo_ways_0 : decode b_Mo_ways 0 = .ok (.aload_n 0, 1) := by decide +kernel
theorem d_Mo_ways_1 : decode b_Mo_ways 1 = .ok (.invokevirtual 138, 3) := by decide +kernel
theorem d_Mo_ways_4 : decode b_Mo_ways 4 = .ok (.aload_n 0, 1) := by decide +kernel
theorem d_Mo_ways_5 : decode b_Mo_ways 5 = .ok (.getfield 120, 3) := by decide +kernel
theorem d_Mo_ways_8 : decode b_Mo_ways 8 = .ok (.ireturn, 1) := by decide +kernel
theorem d_Mo_share_0 : decode b_Mo_share 0 = .ok (.aload_n 0, 1) := by decide +kernel
theorem d_Mo_share_1 : decode b_Mo_share 1 = .ok (.iload_n 1, 1) := by decide +kernel
theorem d_Mo_share_2 : decode b_Mo_share 2 = .ok (.invokevirtual 98, 3) := by decide +kernel
theorem d_Mo_share_5 : decode b_Mo_share 5 = .ok (.ifCond .eq 11, 3) := by decide +kernel
theorem d_Mo_share_8 : decode b_Mo_share 8 = .ok (.aload_n 0, 1) := by decide +kernel
theorem d_Mo_share_9 : decode b_Mo_share 9 = .ok (.iload_n 2, 1) := by decide +kernel
theorem d_Mo_share_10 : decode b_Mo_share 10 = .ok (.invokevirtual 88, 3) := by decide +kernel
theorem d_Mo_share_13 : decode b_Mo_share 13 = .ok (.ifCond .ne 7, 3) := by decide +kernel
theorem d_Mo_share_16 : decode b_Mo_share 16 = .ok (.ldc2_w 145, 3) := by decide +kernel
theorem d_Mo_share_19 : decode b_Mo_share 19 = .ok (.lreturn, 1) := by decide +kernel
theorem d_Mo_share_20 : decode b_Mo_share 20 = .ok (.iload_n 3, 1) := by decide +kernel
theorem d_Mo_share_21 : decode b_Mo_share 21 = .ok (.ifCond .lt 8, 3) := by decide +kernel
theorem d_Mo_share_24 : decode b_Mo_share 24 = .ok (.iload_n 3, 1) := by decide +kernel
theorem d_Mo_share_25 : decode b_Mo_share 25 = .ok (.iconst 1, 1) := by decide +kernel
theorem d_Mo_share_26 : decode b_Mo_share 26 = .ok (.if_icmp .le 7, 3) := by decide +kernel
theorem d_Mo_share_29 : decode b_Mo_share 29 = .ok (.ldc2_w 147, 3) := by decide +kernel
theorem d_Mo_share_32 : decode b_Mo_share 32 = .ok (.lreturn, 1) := by decide +kernel
theorem d_Mo_share_33 : decode b_Mo_share 33 = .ok (.aload_n 0, 1) := by decide +kernel
theorem d_Mo_share_34 : decode b_Mo_share 34 = .ok (.invokevirtual 138, 3) := by decide +kernel
theorem d_Mo_share_37 : decode b_Mo_share 37 = .ok (.aload_n 0, 1) := by decide +kernel
theorem d_Mo_share_38 : decode b_Mo_share 38 = .ok (.getfield 116, 3) := by decide +kernel
theorem d_Mo_share_41 : decode b_Mo_share 41 = .ok (.lconst 0, 1) := by decide +kernel
theorem d_Mo_share_42 : decode b_Mo_share 42 = .ok (.lcmp, 1) := by decide +kernel
theorem d_Mo_share_43 : decode b_Mo_share 43 = .ok (.ifCond .ne 9, 3) := by decide +kernel
theorem d_Mo_share_46 : decode b_Mo_share 46 = .ok (.ldc2_w 149, 3) := by decide +kernel
theorem d_Mo_share_49 : decode b_Mo_share 49 = .ok (.goto 21, 3) := by decide +kernel
theorem d_Mo_share_52 : decode b_Mo_share 52 = .ok (.aload_n 0, 1) := by decide +kernel
theorem d_Mo_share_53 : decode b_Mo_share 53 = .ok (.getfield 31, 3) := by decide +kernel
theorem d_Mo_share_56 : decode b_Mo_share 56 = .ok (.iconst 4, 1) := by decide +kernel
theorem d_Mo_share_57 : decode b_Mo_share 57 = .ok (.iload_n 1, 1) := by decide +kernel
theorem d_Mo_share_58 : decode b_Mo_share 58 = .ok (.imul, 1) := by decide +kernel
theorem d_Mo_share_59 : decode b_Mo_share 59 = .ok (.iload_n 2, 1) := by decide +kernel
theorem d_Mo_share_60 : decode b_Mo_share 60 = .ok (.iadd, 1) := by decide +kernel
theorem d_Mo_share_61 : decode b_Mo_share 61 = .ok (.laload, 1) := by decide +kernel
theorem d_Mo_share_62 : decode b_Mo_share 62 = .ok (.aload_n 0, 1) := by decide +kernel
theorem d_Mo_share_63 : decode b_Mo_share 63 = .ok (.getfield 116, 3) := by decide +kernel
theorem d_Mo_share_66 : decode b_Mo_share 66 = .ok (.iload_n 3, 1) := by decide +kernel
theorem d_Mo_share_67 : decode b_Mo_share 67 = .ok (.invokestatic 151, 3) := by decide +kernel
theorem d_Mo_share_70 : decode b_Mo_share 70 = .ok (.lreturn, 1) := by decide +kernel
theorem d_Mo_lowest_0 : decode b_Mo_lowest 0 = .ok (.lload_n 0, 1) := by decide +kernel
theorem d_Mo_lowest_1 : decode b_Mo_lowest 1 = .ok (.lload_n 2, 1) := by decide +kernel
theorem d_Mo_lowest_2 : decode b_Mo_lowest 2 = .ok (.invokestatic 141, 3) := by decide +kernel
theorem d_Mo_lowest_5 : decode b_Mo_lowest 5 = .ok (.lstore 5, 2) := by decide +kernel
theorem d_Mo_lowest_7 : decode b_Mo_lowest 7 = .ok (.iload 4, 2) := by decide +kernel
theorem d_Mo_lowest_9 : decode b_Mo_lowest 9 = .ok (.ifCond .ne 10, 3) := by decide +kernel
theorem d_Mo_lowest_12 : decode b_Mo_lowest 12 = .ok (.lload_n 0, 1) := by decide +kernel
theorem d_Mo_lowest_13 : decode b_Mo_lowest 13 = .ok (.lload 5, 2) := by decide +kernel
theorem d_Mo_lowest_15 : decode b_Mo_lowest 15 = .ok (.ldiv, 1) := by decide +kernel
theorem d_Mo_lowest_16 : decode b_Mo_lowest 16 = .ok (.goto 7, 3) := by decide +kernel
theorem d_Mo_lowest_19 : decode b_Mo_lowest 19 = .ok (.lload_n 2, 1) := by decide +kernel
theorem d_Mo_lowest_20 : decode b_Mo_lowest 20 = .ok (.lload 5, 2) := by decide +kernel
theorem d_Mo_lowest_22 : decode b_Mo_lowest 22 = .ok (.ldiv, 1) := by decide +kernel
theorem d_Mo_lowest_23 : decode b_Mo_lowest 23 = .ok (.lreturn, 1) := by decide +kernel
theorem d_Mo_common_0 : decode b_Mo_common 0 = .ok (.lload_n 0, 1) := by decide +kernel
theorem d_Mo_common_1 : decode b_Mo_common 1 = .ok (.lstore 4, 2) := by decide +kernel
theorem d_Mo_common_3 : decode b_Mo_common 3 = .ok (.lload_n 2, 1) := by decide +kernel
theorem d_Mo_common_4 : decode b_Mo_common 4 = .ok (.lstore 6, 2) := by decide +kernel
theorem d_Mo_common_6 : decode b_Mo_common 6 = .ok (.lload 6, 2) := by decide +kernel
theorem d_Mo_common_8 : decode b_Mo_common 8 = .ok (.lconst 0, 1) := by decide +kernel
theorem d_Mo_common_9 : decode b_Mo_common 9 = .ok (.lcmp, 1) := by decide +kernel
theorem d_Mo_common_10 : decode b_Mo_common 10 = .ok (.ifCond .eq 21, 3) := by decide +kernel
theorem d_Mo_common_13 : decode b_Mo_common 13 = .ok (.lload 4, 2) := by decide +kernel
theorem d_Mo_common_15 : decode b_Mo_common 15 = .ok (.lload 6, 2) := by decide +kernel
theorem d_Mo_common_17 : decode b_Mo_common 17 = .ok (.lrem, 1) := by decide +kernel
theorem d_Mo_common_18 : decode b_Mo_common 18 = .ok (.lstore 8, 2) := by decide +kernel
theorem d_Mo_common_20 : decode b_Mo_common 20 = .ok (.lload 6, 2) := by decide +kernel
theorem d_Mo_common_22 : decode b_Mo_common 22 = .ok (.lstore 4, 2) := by decide +kernel
theorem d_Mo_common_24 : decode b_Mo_common 24 = .ok (.lload 8, 2) := by decide +kernel
theorem d_Mo_common_26 : decode b_Mo_common 26 = .ok (.lstore 6, 2) := by decide +kernel
theorem d_Mo_common_28 : decode b_Mo_common 28 = .ok (.goto (-22), 3) := by decide +kernel
theorem d_Mo_common_31 : decode b_Mo_common 31 = .ok (.lload 4, 2) := by decide +kernel
theorem d_Mo_common_33 : decode b_Mo_common 33 = .ok (.lreturn, 1) := by decide +kernel
theorem d_Mo_begin_0 : decode b_Mo_begin 0 = .ok (.aload_n 0, 1) := by decide +kernel
theorem d_Mo_begin_1 : decode b_Mo_begin 1 = .ok (.iload_n 1, 1) := by decide +kernel
theorem d_Mo_begin_2 : decode b_Mo_begin 2 = .ok (.invokevirtual 98, 3) := by decide +kernel
theorem d_Mo_begin_5 : decode b_Mo_begin 5 = .ok (.ifCond .eq 11, 3) := by decide +kernel
theorem d_Mo_begin_8 : decode b_Mo_begin 8 = .ok (.aload_n 0, 1) := by decide +kernel
theorem d_Mo_begin_9 : decode b_Mo_begin 9 = .ok (.iload_n 2, 1) := by decide +kernel
theorem d_Mo_begin_10 : decode b_Mo_begin 10 = .ok (.invokevirtual 88, 3) := by decide +kernel
theorem d_Mo_begin_13 : decode b_Mo_begin 13 = .ok (.ifCond .ne 7, 3) := by decide +kernel
theorem d_Mo_begin_16 : decode b_Mo_begin 16 = .ok (.ldc2_w 145, 3) := by decide +kernel
theorem d_Mo_begin_19 : decode b_Mo_begin 19 = .ok (.lreturn, 1) := by decide +kernel
theorem d_Mo_begin_20 : decode b_Mo_begin 20 = .ok (.iload_n 3, 1) := by decide +kernel
theorem d_Mo_begin_21 : decode b_Mo_begin 21 = .ok (.ifCond .lt 8, 3) := by decide +kernel
theorem d_Mo_begin_24 : decode b_Mo_begin 24 = .ok (.iload_n 3, 1) := by decide +kernel
theorem d_Mo_begin_25 : decode b_Mo_begin 25 = .ok (.iconst 1, 1) := by decide +kernel
theorem d_Mo_begin_26 : decode b_Mo_begin 26 = .ok (.if_icmp .le 7, 3) := by decide +kernel
theorem d_Mo_begin_29 : decode b_Mo_begin 29 = .ok (.ldc2_w 147, 3) := by decide +kernel
theorem d_Mo_begin_32 : decode b_Mo_begin 32 = .ok (.lreturn, 1) := by decide +kernel
theorem d_Mo_begin_33 : decode b_Mo_begin 33 = .ok (.aload_n 0, 1) := by decide +kernel
theorem d_Mo_begin_34 : decode b_Mo_begin 34 = .ok (.invokevirtual 138, 3) := by decide +kernel
theorem d_Mo_begin_37 : decode b_Mo_begin 37 = .ok (.aload_n 0, 1) := by decide +kernel
theorem d_Mo_begin_38 : decode b_Mo_begin 38 = .ok (.getfield 116, 3) := by decide +kernel
theorem d_Mo_begin_41 : decode b_Mo_begin 41 = .ok (.lconst 0, 1) := by decide +kernel
theorem d_Mo_begin_42 : decode b_Mo_begin 42 = .ok (.lcmp, 1) := by decide +kernel
theorem d_Mo_begin_43 : decode b_Mo_begin 43 = .ok (.ifCond .ne 9, 3) := by decide +kernel
theorem d_Mo_begin_46 : decode b_Mo_begin 46 = .ok (.ldc2_w 149, 3) := by decide +kernel
theorem d_Mo_begin_49 : decode b_Mo_begin 49 = .ok (.goto 21, 3) := by decide +kernel
theorem d_Mo_begin_52 : decode b_Mo_begin 52 = .ok (.aload_n 0, 1) := by decide +kernel
theorem d_Mo_begin_53 : decode b_Mo_begin 53 = .ok (.getfield 35, 3) := by decide +kernel
theorem d_Mo_begin_56 : decode b_Mo_begin 56 = .ok (.iconst 4, 1) := by decide +kernel
theorem d_Mo_begin_57 : decode b_Mo_begin 57 = .ok (.iload_n 1, 1) := by decide +kernel
theorem d_Mo_begin_58 : decode b_Mo_begin 58 = .ok (.imul, 1) := by decide +kernel
theorem d_Mo_begin_59 : decode b_Mo_begin 59 = .ok (.iload_n 2, 1) := by decide +kernel
theorem d_Mo_begin_60 : decode b_Mo_begin 60 = .ok (.iadd, 1) := by decide +kernel
theorem d_Mo_begin_61 : decode b_Mo_begin 61 = .ok (.laload, 1) := by decide +kernel
theorem d_Mo_begin_62 : decode b_Mo_begin 62 = .ok (.aload_n 0, 1) := by decide +kernel
theorem d_Mo_begin_63 : decode b_Mo_begin 63 = .ok (.getfield 116, 3) := by decide +kernel
theorem d_Mo_begin_66 : decode b_Mo_begin 66 = .ok (.iload_n 3, 1) := by decide +kernel
theorem d_Mo_begin_67 : decode b_Mo_begin 67 = .ok (.invokestatic 151, 3) := by decide +kernel
theorem d_Mo_begin_70 : decode b_Mo_begin 70 = .ok (.lreturn, 1) := by decide +kernel
theorem d_Mo_pair_0 : decode b_Mo_pair 0 = .ok (.aload_n 0, 1) := by decide +kernel
theorem d_Mo_pair_1 : decode b_Mo_pair 1 = .ok (.iload_n 1, 1) := by decide +kernel
theorem d_Mo_pair_2 : decode b_Mo_pair 2 = .ok (.invokevirtual 98, 3) := by decide +kernel
theorem d_Mo_pair_5 : decode b_Mo_pair 5 = .ok (.ifCond .eq 29, 3) := by decide +kernel
theorem d_Mo_pair_8 : decode b_Mo_pair 8 = .ok (.iload_n 1, 1) := by decide +kernel
theorem d_Mo_pair_9 : decode b_Mo_pair 9 = .ok (.aload_n 0, 1) := by decide +kernel
theorem d_Mo_pair_10 : decode b_Mo_pair 10 = .ok (.getfield 82, 3) := by decide +kernel
theorem d_Mo_pair_13 : decode b_Mo_pair 13 = .ok (.iconst 1, 1) := by decide +kernel
theorem d_Mo_pair_14 : decode b_Mo_pair 14 = .ok (.isub, 1) := by decide +kernel
theorem d_Mo_pair_15 : decode b_Mo_pair 15 = .ok (.if_icmp .eq 19, 3) := by decide +kernel
theorem d_Mo_pair_18 : decode b_Mo_pair 18 = .ok (.aload_n 0, 1) := by decide +kernel
theorem d_Mo_pair_19 : decode b_Mo_pair 19 = .ok (.iload_n 2, 1) := by decide +kernel
theorem d_Mo_pair_20 : decode b_Mo_pair 20 = .ok (.invokevirtual 88, 3) := by decide +kernel
theorem d_Mo_pair_23 : decode b_Mo_pair 23 = .ok (.ifCond .eq 11, 3) := by decide +kernel
theorem d_Mo_pair_26 : decode b_Mo_pair 26 = .ok (.aload_n 0, 1) := by decide +kernel
theorem d_Mo_pair_27 : decode b_Mo_pair 27 = .ok (.iload_n 3, 1) := by decide +kernel
theorem d_Mo_pair_28 : decode b_Mo_pair 28 = .ok (.invokevirtual 88, 3) := by decide +kernel
theorem d_Mo_pair_31 : decode b_Mo_pair 31 = .ok (.ifCond .ne 7, 3) := by decide +kernel
theorem d_Mo_pair_34 : decode b_Mo_pair 34 = .ok (.ldc2_w 145, 3) := by decide +kernel
theorem d_Mo_pair_37 : decode b_Mo_pair 37 = .ok (.lreturn, 1) := by decide +kernel
theorem d_Mo_pair_38 : decode b_Mo_pair 38 = .ok (.iload 4, 2) := by decide +kernel
theorem d_Mo_pair_40 : decode b_Mo_pair 40 = .ok (.ifCond .lt 9, 3) := by decide +kernel
theorem d_Mo_pair_43 : decode b_Mo_pair 43 = .ok (.iload 4, 2) := by decide +kernel
theorem d_Mo_pair_45 : decode b_Mo_pair 45 = .ok (.iconst 1, 1) := by decide +kernel
theorem d_Mo_pair_46 : decode b_Mo_pair 46 = .ok (.if_icmp .le 7, 3) := by decide +kernel
theorem d_Mo_pair_49 : decode b_Mo_pair 49 = .ok (.ldc2_w 147, 3) := by decide +kernel
theorem d_Mo_pair_52 : decode b_Mo_pair 52 = .ok (.lreturn, 1) := by decide +kernel
theorem d_Mo_pair_53 : decode b_Mo_pair 53 = .ok (.aload_n 0, 1) := by decide +kernel
theorem d_Mo_pair_54 : decode b_Mo_pair 54 = .ok (.invokevirtual 138, 3) := by decide +kernel
theorem d_Mo_pair_57 : decode b_Mo_pair 57 = .ok (.aload_n 0, 1) := by decide +kernel
theorem d_Mo_pair_58 : decode b_Mo_pair 58 = .ok (.getfield 116, 3) := by decide +kernel
theorem d_Mo_pair_61 : decode b_Mo_pair 61 = .ok (.lconst 0, 1) := by decide +kernel
theorem d_Mo_pair_62 : decode b_Mo_pair 62 = .ok (.lcmp, 1) := by decide +kernel
theorem d_Mo_pair_63 : decode b_Mo_pair 63 = .ok (.ifCond .ne 9, 3) := by decide +kernel
theorem d_Mo_pair_66 : decode b_Mo_pair 66 = .ok (.ldc2_w 149, 3) := by decide +kernel
theorem d_Mo_pair_69 : decode b_Mo_pair 69 = .ok (.goto 27, 3) := by decide +kernel
theorem d_Mo_pair_72 : decode b_Mo_pair 72 = .ok (.aload_n 0, 1) := by decide +kernel
theorem d_Mo_pair_73 : decode b_Mo_pair 73 = .ok (.getfield 38, 3) := by decide +kernel
theorem d_Mo_pair_76 : decode b_Mo_pair 76 = .ok (.bipush 16, 2) := by decide +kernel
theorem d_Mo_pair_78 : decode b_Mo_pair 78 = .ok (.iload_n 1, 1) := by decide +kernel
theorem d_Mo_pair_79 : decode b_Mo_pair 79 = .ok (.imul, 1) := by decide +kernel
theorem d_Mo_pair_80 : decode b_Mo_pair 80 = .ok (.iconst 4, 1) := by decide +kernel
theorem d_Mo_pair_81 : decode b_Mo_pair 81 = .ok (.iload_n 2, 1) := by decide +kernel
theorem d_Mo_pair_82 : decode b_Mo_pair 82 = .ok (.imul, 1) := by decide +kernel
theorem d_Mo_pair_83 : decode b_Mo_pair 83 = .ok (.iadd, 1) := by decide +kernel
theorem d_Mo_pair_84 : decode b_Mo_pair 84 = .ok (.iload_n 3, 1) := by decide +kernel
theorem d_Mo_pair_85 : decode b_Mo_pair 85 = .ok (.iadd, 1) := by decide +kernel
theorem d_Mo_pair_86 : decode b_Mo_pair 86 = .ok (.laload, 1) := by decide +kernel
theorem d_Mo_pair_87 : decode b_Mo_pair 87 = .ok (.aload_n 0, 1) := by decide +kernel
theorem d_Mo_pair_88 : decode b_Mo_pair 88 = .ok (.getfield 116, 3) := by decide +kernel
theorem d_Mo_pair_91 : decode b_Mo_pair 91 = .ok (.iload 4, 2) := by decide +kernel
theorem d_Mo_pair_93 : decode b_Mo_pair 93 = .ok (.invokestatic 151, 3) := by decide +kernel
theorem d_Mo_pair_96 : decode b_Mo_pair 96 = .ok (.lreturn, 1) := by decide +kernel
theorem d_Mo_top_0 : decode b_Mo_top 0 = .ok (.aload_n 0, 1) := by decide +kernel
theorem d_Mo_top_1 : decode b_Mo_top 1 = .ok (.iload_n 1, 1) := by decide +kernel
theorem d_Mo_top_2 : decode b_Mo_top 2 = .ok (.invokevirtual 98, 3) := by decide +kernel
theorem d_Mo_top_5 : decode b_Mo_top 5 = .ok (.ifCond .ne 5, 3) := by decide +kernel
theorem d_Mo_top_8 : decode b_Mo_top 8 = .ok (.iconst (-1), 1) := by decide +kernel
theorem d_Mo_top_9 : decode b_Mo_top 9 = .ok (.ireturn, 1) := by decide +kernel
theorem d_Mo_top_10 : decode b_Mo_top 10 = .ok (.aload_n 0, 1) := by decide +kernel
theorem d_Mo_top_11 : decode b_Mo_top 11 = .ok (.invokevirtual 138, 3) := by decide +kernel
theorem d_Mo_top_14 : decode b_Mo_top 14 = .ok (.aload_n 0, 1) := by decide +kernel
theorem d_Mo_top_15 : decode b_Mo_top 15 = .ok (.getfield 116, 3) := by decide +kernel
theorem d_Mo_top_18 : decode b_Mo_top 18 = .ok (.lconst 0, 1) := by decide +kernel
theorem d_Mo_top_19 : decode b_Mo_top 19 = .ok (.lcmp, 1) := by decide +kernel
theorem d_Mo_top_20 : decode b_Mo_top 20 = .ok (.ifCond .ne 6, 3) := by decide +kernel
theorem d_Mo_top_23 : decode b_Mo_top 23 = .ok (.bipush (-3), 2) := by decide +kernel
theorem d_Mo_top_25 : decode b_Mo_top 25 = .ok (.ireturn, 1) := by decide +kernel
theorem d_Mo_top_26 : decode b_Mo_top 26 = .ok (.iconst 0, 1) := by decide +kernel
theorem d_Mo_top_27 : decode b_Mo_top 27 = .ok (.istore_n 2, 1) := by decide +kernel
theorem d_Mo_top_28 : decode b_Mo_top 28 = .ok (.iconst 1, 1) := by decide +kernel
theorem d_Mo_top_29 : decode b_Mo_top 29 = .ok (.istore_n 3, 1) := by decide +kernel
theorem d_Mo_top_30 : decode b_Mo_top 30 = .ok (.iload_n 3, 1) := by decide +kernel
theorem d_Mo_top_31 : decode b_Mo_top 31 = .ok (.aload_n 0, 1) := by decide +kernel
theorem d_Mo_top_32 : decode b_Mo_top 32 = .ok (.getfield 75, 3) := by decide +kernel
theorem d_Mo_top_35 : decode b_Mo_top 35 = .ok (.if_icmp .ge 39, 3) := by decide +kernel
theorem d_Mo_top_38 : decode b_Mo_top 38 = .ok (.aload_n 0, 1) := by decide +kernel
theorem d_Mo_top_39 : decode b_Mo_top 39 = .ok (.getfield 31, 3) := by decide +kernel
theorem d_Mo_top_42 : decode b_Mo_top 42 = .ok (.iconst 4, 1) := by decide +kernel
theorem d_Mo_top_43 : decode b_Mo_top 43 = .ok (.iload_n 1, 1) := by decide +kernel
theorem d_Mo_top_44 : decode b_Mo_top 44 = .ok (.imul, 1) := by decide +kernel
theorem d_Mo_top_45 : decode b_Mo_top 45 = .ok (.iload_n 3, 1) := by decide +kernel
theorem d_Mo_top_46 : decode b_Mo_top 46 = .ok (.iadd, 1) := by decide +kernel
theorem d_Mo_top_47 : decode b_Mo_top 47 = .ok (.laload, 1) := by decide +kernel
theorem d_Mo_top_48 : decode b_Mo_top 48 = .ok (.aload_n 0, 1) := by decide +kernel
theorem d_Mo_top_49 : decode b_Mo_top 49 = .ok (.getfield 31, 3) := by decide +kernel
theorem d_Mo_top_52 : decode b_Mo_top 52 = .ok (.iconst 4, 1) := by decide +kernel
theorem d_Mo_top_53 : decode b_Mo_top 53 = .ok (.iload_n 1, 1) := by decide +kernel
theorem d_Mo_top_54 : decode b_Mo_top 54 = .ok (.imul, 1) := by decide +kernel
theorem d_Mo_top_55 : decode b_Mo_top 55 = .ok (.iload_n 2, 1) := by decide +kernel
theorem d_Mo_top_56 : decode b_Mo_top 56 = .ok (.iadd, 1) := by decide +kernel
theorem d_Mo_top_57 : decode b_Mo_top 57 = .ok (.laload, 1) := by decide +kernel
theorem d_Mo_top_58 : decode b_Mo_top 58 = .ok (.lcmp, 1) := by decide +kernel
theorem d_Mo_top_59 : decode b_Mo_top 59 = .ok (.ifCond .le 7, 3) := by decide +kernel
theorem d_Mo_top_62 : decode b_Mo_top 62 = .ok (.iload_n 3, 1) := by decide +kernel
theorem d_Mo_top_63 : decode b_Mo_top 63 = .ok (.goto 4, 3) := by decide +kernel
theorem d_Mo_top_66 : decode b_Mo_top 66 = .ok (.iload_n 2, 1) := by decide +kernel
theorem d_Mo_top_67 : decode b_Mo_top 67 = .ok (.istore_n 2, 1) := by decide +kernel
theorem d_Mo_top_68 : decode b_Mo_top 68 = .ok (.iinc 3 1, 3) := by decide +kernel
theorem d_Mo_top_71 : decode b_Mo_top 71 = .ok (.goto (-41), 3) := by decide +kernel
theorem d_Mo_top_74 : decode b_Mo_top 74 = .ok (.iload_n 2, 1) := by decide +kernel
theorem d_Mo_top_75 : decode b_Mo_top 75 = .ok (.ireturn, 1) := by decide +kernel
theorem d_Mo_best_0 : decode b_Mo_best 0 = .ok (.iload_n 1, 1) := by decide +kernel
theorem d_Mo_best_1 : decode b_Mo_best 1 = .ok (.ifCond .lt 9, 3) := by decide +kernel
theorem d_Mo_best_4 : decode b_Mo_best 4 = .ok (.iload_n 1, 1) := by decide +kernel
theorem d_Mo_best_5 : decode b_Mo_best 5 = .ok (.bipush 9, 2) := by decide +kernel
theorem d_Mo_best_7 : decode b_Mo_best 7 = .ok (.if_icmp .le 7, 3) := by decide +kernel
theorem d_Mo_best_10 : decode b_Mo_best 10 = .ok (.ldc2_w 147, 3) := by decide +kernel
theorem d_Mo_best_13 : decode b_Mo_best 13 = .ok (.lreturn, 1) := by decide +kernel
theorem d_Mo_best_14 : decode b_Mo_best 14 = .ok (.aload_n 0, 1) := by decide +kernel
theorem d_Mo_best_15 : decode b_Mo_best 15 = .ok (.invokevirtual 138, 3) := by decide +kernel
theorem d_Mo_best_18 : decode b_Mo_best 18 = .ok (.iload_n 1, 1) := by decide +kernel
theorem d_Mo_best_19 : decode b_Mo_best 19 = .ok (.aload_n 0, 1) := by decide +kernel
theorem d_Mo_best_20 : decode b_Mo_best 20 = .ok (.getfield 113, 3) := by decide +kernel
theorem d_Mo_best_23 : decode b_Mo_best 23 = .ok (.if_icmp .ge 12, 3) := by decide +kernel
theorem d_Mo_best_26 : decode b_Mo_best 26 = .ok (.aload_n 0, 1) := by decide +kernel
theorem d_Mo_best_27 : decode b_Mo_best 27 = .ok (.getfield 41, 3) := by decide +kernel
theorem d_Mo_best_30 : decode b_Mo_best 30 = .ok (.iload_n 1, 1) := by decide +kernel
theorem d_Mo_best_31 : decode b_Mo_best 31 = .ok (.laload, 1) := by decide +kernel
theorem d_Mo_best_32 : decode b_Mo_best 32 = .ok (.goto 6, 3) := by decide +kernel
theorem d_Mo_best_35 : decode b_Mo_best 35 = .ok (.ldc2_w 149, 3) := by decide +kernel
theorem d_Mo_best_38 : decode b_Mo_best 38 = .ok (.lreturn, 1) := by decide +kernel
theorem d_Mo_bestAt_0 : decode b_Mo_bestAt 0 = .ok (.iload_n 1, 1) := by decide +kernel
theorem d_Mo_bestAt_1 : decode b_Mo_bestAt 1 = .ok (.ifCond .lt 9, 3) := by decide +kernel
theorem d_Mo_bestAt_4 : decode b_Mo_bestAt 4 = .ok (.iload_n 1, 1) := by decide +kernel
theorem d_Mo_bestAt_5 : decode b_Mo_bestAt 5 = .ok (.bipush 9, 2) := by decide +kernel
theorem d_Mo_bestAt_7 : decode b_Mo_bestAt 7 = .ok (.if_icmp .le 6, 3) := by decide +kernel
theorem d_Mo_bestAt_10 : decode b_Mo_bestAt 10 = .ok (.bipush (-2), 2) := by decide +kernel
theorem d_Mo_bestAt_12 : decode b_Mo_bestAt 12 = .ok (.ireturn, 1) := by decide +kernel
theorem d_Mo_bestAt_13 : decode b_Mo_bestAt 13 = .ok (.aload_n 0, 1) := by decide +kernel
theorem d_Mo_bestAt_14 : decode b_Mo_bestAt 14 = .ok (.invokevirtual 138, 3) := by decide +kernel
theorem d_Mo_bestAt_17 : decode b_Mo_bestAt 17 = .ok (.iload_n 1, 1) := by decide +kernel
theorem d_Mo_bestAt_18 : decode b_Mo_bestAt 18 = .ok (.aload_n 0, 1) := by decide +kernel
theorem d_Mo_bestAt_19 : decode b_Mo_bestAt 19 = .ok (.getfield 113, 3) := by decide +kernel
theorem d_Mo_bestAt_22 : decode b_Mo_bestAt 22 = .ok (.if_icmp .lt 6, 3) := by decide +kernel
theorem d_Mo_bestAt_25 : decode b_Mo_bestAt 25 = .ok (.bipush (-3), 2) := by decide +kernel
theorem d_Mo_bestAt_27 : decode b_Mo_bestAt 27 = .ok (.ireturn, 1) := by decide +kernel
theorem d_Mo_bestAt_28 : decode b_Mo_bestAt 28 = .ok (.aload_n 0, 1) := by decide +kernel
theorem d_Mo_bestAt_29 : decode b_Mo_bestAt 29 = .ok (.iload_n 2, 1) := by decide +kernel
theorem d_Mo_bestAt_30 : decode b_Mo_bestAt 30 = .ok (.invokevirtual 98, 3) := by decide +kernel
theorem d_Mo_bestAt_33 : decode b_Mo_bestAt 33 = .ok (.ifCond .eq 17, 3) := by decide +kernel
theorem d_Mo_bestAt_36 : decode b_Mo_bestAt 36 = .ok (.aload_n 0, 1) := by decide +kernel
theorem d_Mo_bestAt_37 : decode b_Mo_bestAt 37 = .ok (.getfield 44, 3) := by decide +kernel
theorem d_Mo_bestAt_40 : decode b_Mo_bestAt 40 = .ok (.bipush 6, 2) := by decide +kernel
theorem d_Mo_bestAt_42 : decode b_Mo_bestAt 42 = .ok (.iload_n 1, 1) := by decide +kernel
theorem d_Mo_bestAt_43 : decode b_Mo_bestAt 43 = .ok (.imul, 1) := by decide +kernel
theorem d_Mo_bestAt_44 : decode b_Mo_bestAt 44 = .ok (.iload_n 2, 1) := by decide +kernel
theorem d_Mo_bestAt_45 : decode b_Mo_bestAt 45 = .ok (.iadd, 1) := by decide +kernel
theorem d_Mo_bestAt_46 : decode b_Mo_bestAt 46 = .ok (.iaload, 1) := by decide +kernel
theorem d_Mo_bestAt_47 : decode b_Mo_bestAt 47 = .ok (.goto 4, 3) := by decide +kernel
theorem d_Mo_bestAt_50 : decode b_Mo_bestAt 50 = .ok (.iconst (-1), 1) := by decide +kernel
theorem d_Mo_bestAt_51 : decode b_Mo_bestAt 51 = .ok (.ireturn, 1) := by decide +kernel
theorem d_Mo_drawn_0 : decode b_Mo_drawn 0 = .ok (.aload_n 0, 1) := by decide +kernel
theorem d_Mo_drawn_1 : decode b_Mo_drawn 1 = .ok (.invokevirtual 138, 3) := by decide +kernel
theorem d_Mo_drawn_4 : decode b_Mo_drawn 4 = .ok (.aload_n 0, 1) := by decide +kernel
theorem d_Mo_drawn_5 : decode b_Mo_drawn 5 = .ok (.getfield 116, 3) := by decide +kernel
theorem d_Mo_drawn_8 : decode b_Mo_drawn 8 = .ok (.lconst 0, 1) := by decide +kernel
theorem d_Mo_drawn_9 : decode b_Mo_drawn 9 = .ok (.lcmp, 1) := by decide +kernel
theorem d_Mo_drawn_10 : decode b_Mo_drawn 10 = .ok (.ifCond .ne 7, 3) := by decide +kernel
theorem d_Mo_drawn_13 : decode b_Mo_drawn 13 = .ok (.ldc2_w 149, 3) := by decide +kernel
theorem d_Mo_drawn_16 : decode b_Mo_drawn 16 = .ok (.lreturn, 1) := by decide +kernel
theorem d_Mo_drawn_17 : decode b_Mo_drawn 17 = .ok (.iload_n 1, 1) := by decide +kernel
theorem d_Mo_drawn_18 : decode b_Mo_drawn 18 = .ok (.ldc 155, 2) := by decide +kernel
theorem d_Mo_drawn_20 : decode b_Mo_drawn 20 = .ok (.imul, 1) := by decide +kernel
theorem d_Mo_drawn_21 : decode b_Mo_drawn 21 = .ok (.ldc 156, 2) := by decide +kernel
theorem d_Mo_drawn_23 : decode b_Mo_drawn 23 = .ok (.iadd, 1) := by decide +kernel
theorem d_Mo_drawn_24 : decode b_Mo_drawn 24 = .ok (.istore_n 2, 1) := by decide +kernel
theorem d_Mo_drawn_25 : decode b_Mo_drawn 25 = .ok (.iload_n 2, 1) := by decide +kernel
theorem d_Mo_drawn_26 : decode b_Mo_drawn 26 = .ok (.iconst 1, 1) := by decide +kernel
theorem d_Mo_drawn_27 : decode b_Mo_drawn 27 = .ok (.iushr, 1) := by decide +kernel
theorem d_Mo_drawn_28 : decode b_Mo_drawn 28 = .ok (.i2l, 1) := by decide +kernel
theorem d_Mo_drawn_29 : decode b_Mo_drawn 29 = .ok (.lstore_n 3, 1) := by decide +kernel
theorem d_Mo_drawn_30 : decode b_Mo_drawn 30 = .ok (.iload_n 2, 1) := by decide +kernel
theorem d_Mo_drawn_31 : decode b_Mo_drawn 31 = .ok (.ldc 155, 2) := by decide +kernel
theorem d_Mo_drawn_33 : decode b_Mo_drawn 33 = .ok (.imul, 1) := by decide +kernel
theorem d_Mo_drawn_34 : decode b_Mo_drawn 34 = .ok (.ldc 156, 2) := by decide +kernel
theorem d_Mo_drawn_36 : decode b_Mo_drawn 36 = .ok (.iadd, 1) := by decide +kernel
theorem d_Mo_drawn_37 : decode b_Mo_drawn 37 = .ok (.istore_n 2, 1) := by decide +kernel
theorem d_Mo_drawn_38 : decode b_Mo_drawn 38 = .ok (.ldc2_w 157, 3) := by decide +kernel
theorem d_Mo_drawn_41 : decode b_Mo_drawn 41 = .ok (.lload_n 3, 1) := by decide +kernel
theorem d_Mo_drawn_42 : decode b_Mo_drawn 42 = .ok (.lmul, 1) := by decide +kernel
theorem d_Mo_drawn_43 : decode b_Mo_drawn 43 = .ok (.iload_n 2, 1) := by decide +kernel
theorem d_Mo_drawn_44 : decode b_Mo_drawn 44 = .ok (.iconst 1, 1) := by decide +kernel
theorem d_Mo_drawn_45 : decode b_Mo_drawn 45 = .ok (.iushr, 1) := by decide +kernel
theorem d_Mo_drawn_46 : decode b_Mo_drawn 46 = .ok (.i2l, 1) := by decide +kernel
theorem d_Mo_drawn_47 : decode b_Mo_drawn 47 = .ok (.ladd, 1) := by decide +kernel
theorem d_Mo_drawn_48 : decode b_Mo_drawn 48 = .ok (.aload_n 0, 1) := by decide +kernel
theorem d_Mo_drawn_49 : decode b_Mo_drawn 49 = .ok (.getfield 116, 3) := by decide +kernel
theorem d_Mo_drawn_52 : decode b_Mo_drawn 52 = .ok (.lrem, 1) := by decide +kernel
theorem d_Mo_drawn_53 : decode b_Mo_drawn 53 = .ok (.lstore 5, 2) := by decide +kernel
theorem d_Mo_drawn_55 : decode b_Mo_drawn 55 = .ok (.aload_n 0, 1) := by decide +kernel
theorem d_Mo_drawn_56 : decode b_Mo_drawn 56 = .ok (.iconst 1, 1) := by decide +kernel
theorem d_Mo_drawn_57 : decode b_Mo_drawn 57 = .ok (.invokevirtual 123, 3) := by decide +kernel
theorem d_Mo_drawn_60 : decode b_Mo_drawn 60 = .ok (.istore 7, 2) := by decide +kernel
theorem d_Mo_drawn_62 : decode b_Mo_drawn 62 = .ok (.aload_n 0, 1) := by decide +kernel
theorem d_Mo_drawn_63 : decode b_Mo_drawn 63 = .ok (.invokevirtual 127, 3) := by decide +kernel
theorem d_Mo_drawn_66 : decode b_Mo_drawn 66 = .ok (.lstore 8, 2) := by decide +kernel
theorem d_Mo_drawn_68 : decode b_Mo_drawn 68 = .ok (.iload 7, 2) := by decide +kernel
theorem d_Mo_drawn_70 : decode b_Mo_drawn 70 = .ok (.ifCond .eq 34, 3) := by decide +kernel
theorem d_Mo_drawn_73 : decode b_Mo_drawn 73 = .ok (.lload 8, 2) := by decide +kernel
theorem d_Mo_drawn_75 : decode b_Mo_drawn 75 = .ok (.lload 5, 2) := by decide +kernel
theorem d_Mo_drawn_77 : decode b_Mo_drawn 77 = .ok (.lcmp, 1) := by decide +kernel
theorem d_Mo_drawn_78 : decode b_Mo_drawn 78 = .ok (.ifCond .gt 26, 3) := by decide +kernel
theorem d_Mo_drawn_81 : decode b_Mo_drawn 81 = .ok (.lload 5, 2) := by decide +kernel
theorem d_Mo_drawn_83 : decode b_Mo_drawn 83 = .ok (.lload 8, 2) := by decide +kernel
theorem d_Mo_drawn_85 : decode b_Mo_drawn 85 = .ok (.lsub, 1) := by decide +kernel
theorem d_Mo_drawn_86 : decode b_Mo_drawn 86 = .ok (.lstore 5, 2) := by decide +kernel
theorem d_Mo_drawn_88 : decode b_Mo_drawn 88 = .ok (.aload_n 0, 1) := by decide +kernel
theorem d_Mo_drawn_89 : decode b_Mo_drawn 89 = .ok (.iconst 0, 1) := by decide +kernel
theorem d_Mo_drawn_90 : decode b_Mo_drawn 90 = .ok (.invokevirtual 123, 3) := by decide +kernel
theorem d_Mo_drawn_93 : decode b_Mo_drawn 93 = .ok (.istore 7, 2) := by decide +kernel
theorem d_Mo_drawn_95 : decode b_Mo_drawn 95 = .ok (.aload_n 0, 1) := by decide +kernel
theorem d_Mo_drawn_96 : decode b_Mo_drawn 96 = .ok (.invokevirtual 127, 3) := by decide +kernel
theorem d_Mo_drawn_99 : decode b_Mo_drawn 99 = .ok (.lstore 8, 2) := by decide +kernel
theorem d_Mo_drawn_101 : decode b_Mo_drawn 101 = .ok (.goto (-33), 3) := by decide +kernel
theorem d_Mo_drawn_104 : decode b_Mo_drawn 104 = .ok (.iconst 0, 1) := by decide +kernel
theorem d_Mo_drawn_105 : decode b_Mo_drawn 105 = .ok (.istore 10, 2) := by decide +kernel
theorem d_Mo_drawn_107 : decode b_Mo_drawn 107 = .ok (.iload 10, 2) := by decide +kernel
theorem d_Mo_drawn_109 : decode b_Mo_drawn 109 = .ok (.aload_n 0, 1) := by decide +kernel
theorem d_Mo_drawn_110 : decode b_Mo_drawn 110 = .ok (.getfield 82, 3) := by decide +kernel
theorem d_Mo_drawn_113 : decode b_Mo_drawn 113 = .ok (.if_icmp .ge 23, 3) := by decide +kernel
theorem d_Mo_drawn_116 : decode b_Mo_drawn 116 = .ok (.aload_n 0, 1) := by decide +kernel
theorem d_Mo_drawn_117 : decode b_Mo_drawn 117 = .ok (.getfield 47, 3) := by decide +kernel
theorem d_Mo_drawn_120 : decode b_Mo_drawn 120 = .ok (.iload 10, 2) := by decide +kernel
theorem d_Mo_drawn_122 : decode b_Mo_drawn 122 = .ok (.aload_n 0, 1) := by decide +kernel
theorem d_Mo_drawn_123 : decode b_Mo_drawn 123 = .ok (.getfield 28, 3) := by decide +kernel
theorem d_Mo_drawn_126 : decode b_Mo_drawn 126 = .ok (.iload 10, 2) := by decide +kernel
theorem d_Mo_drawn_128 : decode b_Mo_drawn 128 = .ok (.iaload, 1) := by decide +kernel
theorem d_Mo_drawn_129 : decode b_Mo_drawn 129 = .ok (.iastore, 1) := by decide +kernel
theorem d_Mo_drawn_130 : decode b_Mo_drawn 130 = .ok (.iinc 10 1, 3) := by decide +kernel
theorem d_Mo_drawn_133 : decode b_Mo_drawn 133 = .ok (.goto (-26), 3) := by decide +kernel
theorem d_Mo_drawn_136 : decode b_Mo_drawn 136 = .ok (.aload_n 0, 1) := by decide +kernel
theorem d_Mo_drawn_137 : decode b_Mo_drawn 137 = .ok (.iconst 1, 1) := by decide +kernel
theorem d_Mo_drawn_138 : decode b_Mo_drawn 138 = .ok (.putfield 72, 3) := by decide +kernel
theorem d_Mo_drawn_141 : decode b_Mo_drawn 141 = .ok (.lload 8, 2) := by decide +kernel
theorem d_Mo_drawn_143 : decode b_Mo_drawn 143 = .ok (.lreturn, 1) := by decide +kernel
theorem d_Mo_drawnAt_0 : decode b_Mo_drawnAt 0 = .ok (.aload_n 0, 1) := by decide +kernel
theorem d_Mo_drawnAt_1 : decode b_Mo_drawnAt 1 = .ok (.getfield 72, 3) := by decide +kernel
theorem d_Mo_drawnAt_4 : decode b_Mo_drawnAt 4 = .ok (.ifCond .ne 8, 3) := by decide +kernel
theorem d_Mo_drawnAt_7 : decode b_Mo_drawnAt 7 = .ok (.bipush (-3), 2) := by decide +kernel
theorem d_Mo_drawnAt_9 : decode b_Mo_drawnAt 9 = .ok (.goto 21, 3) := by decide +kernel
theorem d_Mo_drawnAt_12 : decode b_Mo_drawnAt 12 = .ok (.aload_n 0, 1) := by decide +kernel
theorem d_Mo_drawnAt_13 : decode b_Mo_drawnAt 13 = .ok (.iload_n 1, 1) := by decide +kernel
theorem d_Mo_drawnAt_14 : decode b_Mo_drawnAt 14 = .ok (.invokevirtual 98, 3) := by decide +kernel
theorem d_Mo_drawnAt_17 : decode b_Mo_drawnAt 17 = .ok (.ifCond .eq 12, 3) := by decide +kernel
theorem d_Mo_drawnAt_20 : decode b_Mo_drawnAt 20 = .ok (.aload_n 0, 1) := by decide +kernel
theorem d_Mo_drawnAt_21 : decode b_Mo_drawnAt 21 = .ok (.getfield 47, 3) := by decide +kernel
theorem d_Mo_drawnAt_24 : decode b_Mo_drawnAt 24 = .ok (.iload_n 1, 1) := by decide +kernel
theorem d_Mo_drawnAt_25 : decode b_Mo_drawnAt 25 = .ok (.iaload, 1) := by decide +kernel
theorem d_Mo_drawnAt_26 : decode b_Mo_drawnAt 26 = .ok (.goto 4, 3) := by decide +kernel
theorem d_Mo_drawnAt_29 : decode b_Mo_drawnAt 29 = .ok (.iconst (-1), 1) := by decide +kernel
theorem d_Mo_drawnAt_30 : decode b_Mo_drawnAt 30 = .ok (.ireturn, 1) := by decide +kernel
theorem d_Mo_trees_0 : decode b_Mo_trees 0 = .ok (.aload_n 0, 1) := by decide +kernel
theorem d_Mo_trees_1 : decode b_Mo_trees 1 = .ok (.iload_n 1, 1) := by decide +kernel
theorem d_Mo_trees_2 : decode b_Mo_trees 2 = .ok (.invokevirtual 95, 3) := by decide +kernel
theorem d_Mo_trees_5 : decode b_Mo_trees 5 = .ok (.ifCond .ne 7, 3) := by decide +kernel
theorem d_Mo_trees_8 : decode b_Mo_trees 8 = .ok (.ldc2_w 145, 3) := by decide +kernel
theorem d_Mo_trees_11 : decode b_Mo_trees 11 = .ok (.lreturn, 1) := by decide +kernel
theorem d_Mo_trees_12 : decode b_Mo_trees 12 = .ok (.aload_n 0, 1) := by decide +kernel
theorem d_Mo_trees_13 : decode b_Mo_trees 13 = .ok (.getfield 82, 3) := by decide +kernel
theorem d_Mo_trees_16 : decode b_Mo_trees 16 = .ok (.ifCond .ne 5, 3) := by decide +kernel
theorem d_Mo_trees_19 : decode b_Mo_trees 19 = .ok (.lconst 0, 1) := by decide +kernel
theorem d_Mo_trees_20 : decode b_Mo_trees 20 = .ok (.lreturn, 1) := by decide +kernel
theorem d_Mo_trees_21 : decode b_Mo_trees 21 = .ok (.aload_n 0, 1) := by decide +kernel
theorem d_Mo_trees_22 : decode b_Mo_trees 22 = .ok (.iconst 0, 1) := by decide +kernel
theorem d_Mo_trees_23 : decode b_Mo_trees 23 = .ok (.iconst 0, 1) := by decide +kernel
theorem d_Mo_trees_24 : decode b_Mo_trees 24 = .ok (.iconst 4, 1) := by decide +kernel
theorem d_Mo_trees_25 : decode b_Mo_trees 25 = .ok (.invokevirtual 171, 3) := by decide +kernel
theorem d_Mo_trees_28 : decode b_Mo_trees 28 = .ok (.aload_n 0, 1) := by decide +kernel
theorem d_Mo_trees_29 : decode b_Mo_trees 29 = .ok (.getfield 50, 3) := by decide +kernel
theorem d_Mo_trees_32 : decode b_Mo_trees 32 = .ok (.aload_n 0, 1) := by decide +kernel
theorem d_Mo_trees_33 : decode b_Mo_trees 33 = .ok (.iload_n 1, 1) := by decide +kernel
theorem d_Mo_trees_34 : decode b_Mo_trees 34 = .ok (.invokevirtual 174, 3) := by decide +kernel
theorem d_Mo_trees_37 : decode b_Mo_trees 37 = .ok (.laload, 1) := by decide +kernel
theorem d_Mo_trees_38 : decode b_Mo_trees 38 = .ok (.lreturn, 1) := by decide +kernel
theorem d_Mo_findTrees_0 : decode b_Mo_findTrees 0 = .ok (.iconst 1, 1) := by decide +kernel
theorem d_Mo_findTrees_1 : decode b_Mo_findTrees 1 = .ok (.istore 4, 2) := by decide +kernel
theorem d_Mo_findTrees_3 : decode b_Mo_findTrees 3 = .ok (.iload 4, 2) := by decide +kernel
theorem d_Mo_findTrees_5 : decode b_Mo_findTrees 5 = .ok (.aload_n 0, 1) := by decide +kernel
theorem d_Mo_findTrees_6 : decode b_Mo_findTrees 6 = .ok (.getfield 82, 3) := by decide +kernel
theorem d_Mo_findTrees_9 : decode b_Mo_findTrees 9 = .ok (.if_icmp .gt 105, 3) := by decide +kernel
theorem d_Mo_findTrees_12 : decode b_Mo_findTrees 12 = .ok (.iconst 0, 1) := by decide +kernel
theorem d_Mo_findTrees_13 : decode b_Mo_findTrees 13 = .ok (.istore 5, 2) := by decide +kernel
theorem d_Mo_findTrees_15 : decode b_Mo_findTrees 15 = .ok (.iload 5, 2) := by decide +kernel
theorem d_Mo_findTrees_17 : decode b_Mo_findTrees 17 = .ok (.iload 4, 2) := by decide +kernel
theorem d_Mo_findTrees_19 : decode b_Mo_findTrees 19 = .ok (.iadd, 1) := by decide +kernel
theorem d_Mo_findTrees_20 : decode b_Mo_findTrees 20 = .ok (.aload_n 0, 1) := by decide +kernel
theorem d_Mo_findTrees_21 : decode b_Mo_findTrees 21 = .ok (.getfield 82, 3) := by decide +kernel
theorem d_Mo_findTrees_24 : decode b_Mo_findTrees 24 = .ok (.if_icmp .gt 84, 3) := by decide +kernel
theorem d_Mo_findTrees_27 : decode b_Mo_findTrees 27 = .ok (.iload 5, 2) := by decide +kernel
theorem d_Mo_findTrees_29 : decode b_Mo_findTrees 29 = .ok (.iload 4, 2) := by decide +kernel
theorem d_Mo_findTrees_31 : decode b_Mo_findTrees 31 = .ok (.iadd, 1) := by decide +kernel
theorem d_Mo_findTrees_32 : decode b_Mo_findTrees 32 = .ok (.iconst 1, 1) := by decide +kernel
theorem d_Mo_findTrees_33 : decode b_Mo_findTrees 33 = .ok (.isub, 1) := by decide +kernel
theorem d_Mo_findTrees_34 : decode b_Mo_findTrees 34 = .ok (.istore 6, 2) := by decide +kernel
theorem d_Mo_findTrees_36 : decode b_Mo_findTrees 36 = .ok (.iconst 0, 1) := by decide +kernel
theorem d_Mo_findTrees_37 : decode b_Mo_findTrees 37 = .ok (.istore 7, 2) := by decide +kernel
theorem d_Mo_findTrees_39 : decode b_Mo_findTrees 39 = .ok (.iload 7, 2) := by decide +kernel
theorem d_Mo_findTrees_41 : decode b_Mo_findTrees 41 = .ok (.aload_n 0, 1) := by decide +kernel
theorem d_Mo_findTrees_42 : decode b_Mo_findTrees 42 = .ok (.getfield 79, 3) := by decide +kernel
theorem d_Mo_findTrees_45 : decode b_Mo_findTrees 45 = .ok (.if_icmp .ge 57, 3) := by decide +kernel
theorem d_Mo_findTrees_48 : decode b_Mo_findTrees 48 = .ok (.aload_n 0, 1) := by decide +kernel
theorem d_Mo_findTrees_49 : decode b_Mo_findTrees 49 = .ok (.iload 5, 2) := by decide +kernel
theorem d_Mo_findTrees_51 : decode b_Mo_findTrees 51 = .ok (.iload 6, 2) := by decide +kernel
theorem d_Mo_findTrees_53 : decode b_Mo_findTrees 53 = .ok (.iload 7, 2) := by decide +kernel
theorem d_Mo_findTrees_55 : decode b_Mo_findTrees 55 = .ok (.invokevirtual 159, 3) := by decide +kernel
theorem d_Mo_findTrees_58 : decode b_Mo_findTrees 58 = .ok (.iload 5, 2) := by decide +kernel
theorem d_Mo_findTrees_60 : decode b_Mo_findTrees 60 = .ok (.iload_n 1, 1) := by decide +kernel
theorem d_Mo_findTrees_61 : decode b_Mo_findTrees 61 = .ok (.if_icmp .ne 35, 3) := by decide +kernel
theorem d_Mo_findTrees_64 : decode b_Mo_findTrees 64 = .ok (.iload 6, 2) := by decide +kernel
theorem d_Mo_findTrees_66 : decode b_Mo_findTrees 66 = .ok (.iload_n 2, 1) := by decide +kernel
theorem d_Mo_findTrees_67 : decode b_Mo_findTrees 67 = .ok (.if_icmp .ne 29, 3) := by decide +kernel
theorem d_Mo_findTrees_70 : decode b_Mo_findTrees 70 = .ok (.iload_n 3, 1) := by decide +kernel
theorem d_Mo_findTrees_71 : decode b_Mo_findTrees 71 = .ok (.iconst 4, 1) := by decide +kernel
theorem d_Mo_findTrees_72 : decode b_Mo_findTrees 72 = .ok (.if_icmp .eq 24, 3) := by decide +kernel
theorem d_Mo_findTrees_75 : decode b_Mo_findTrees 75 = .ok (.iload 7, 2) := by decide +kernel
theorem d_Mo_findTrees_77 : decode b_Mo_findTrees 77 = .ok (.iload_n 3, 1) := by decide +kernel
theorem d_Mo_findTrees_78 : decode b_Mo_findTrees 78 = .ok (.if_icmp .eq 18, 3) := by decide +kernel
theorem d_Mo_findTrees_81 : decode b_Mo_findTrees 81 = .ok (.aload_n 0, 1) := by decide +kernel
theorem d_Mo_findTrees_82 : decode b_Mo_findTrees 82 = .ok (.getfield 50, 3) := by decide +kernel
theorem d_Mo_findTrees_85 : decode b_Mo_findTrees 85 = .ok (.iload 5, 2) := by decide +kernel
theorem d_Mo_findTrees_87 : decode b_Mo_findTrees 87 = .ok (.iload 6, 2) := by decide +kernel
theorem d_Mo_findTrees_89 : decode b_Mo_findTrees 89 = .ok (.iload 7, 2) := by decide +kernel
theorem d_Mo_findTrees_91 : decode b_Mo_findTrees 91 = .ok (.invokestatic 163, 3) := by decide +kernel
theorem d_Mo_findTrees_94 : decode b_Mo_findTrees 94 = .ok (.lconst 0, 1) := by decide +kernel
theorem d_Mo_findTrees_95 : decode b_Mo_findTrees 95 = .ok (.lastore, 1) := by decide +kernel
theorem d_Mo_findTrees_96 : decode b_Mo_findTrees 96 = .ok (.iinc 7 1, 3) := by decide +kernel
theorem d_Mo_findTrees_99 : decode b_Mo_findTrees 99 = .ok (.goto (-60), 3) := by decide +kernel
theorem d_Mo_findTrees_102 : decode b_Mo_findTrees 102 = .ok (.iinc 5 1, 3) := by decide +kernel
theorem d_Mo_findTrees_105 : decode b_Mo_findTrees 105 = .ok (.goto (-90), 3) := by decide +kernel
theorem d_Mo_findTrees_108 : decode b_Mo_findTrees 108 = .ok (.iinc 4 1, 3) := by decide +kernel
theorem d_Mo_findTrees_111 : decode b_Mo_findTrees 111 = .ok (.goto (-108), 3) := by decide +kernel
theorem d_Mo_findTrees_114 : decode b_Mo_findTrees 114 = .ok (.return_, 1) := by decide +kernel
theorem d_Mo_findSpan_0 : decode b_Mo_findSpan 0 = .ok (.iload_n 1, 1) := by decide +kernel
theorem d_Mo_findSpan_1 : decode b_Mo_findSpan 1 = .ok (.iload_n 2, 1) := by decide +kernel
theorem d_Mo_findSpan_2 : decode b_Mo_findSpan 2 = .ok (.iload_n 3, 1) := by decide +kernel
theorem d_Mo_findSpan_3 : decode b_Mo_findSpan 3 = .ok (.invokestatic 163, 3) := by decide +kernel
theorem d_Mo_findSpan_6 : decode b_Mo_findSpan 6 = .ok (.istore 4, 2) := by decide +kernel
theorem d_Mo_findSpan_8 : decode b_Mo_findSpan 8 = .ok (.iload_n 1, 1) := by decide +kernel
theorem d_Mo_findSpan_9 : decode b_Mo_findSpan 9 = .ok (.iload_n 2, 1) := by decide +kernel
theorem d_Mo_findSpan_10 : decode b_Mo_findSpan 10 = .ok (.if_icmp .ne 55, 3) := by decide +kernel
theorem d_Mo_findSpan_13 : decode b_Mo_findSpan 13 = .ok (.aload_n 0, 1) := by decide +kernel
theorem d_Mo_findSpan_14 : decode b_Mo_findSpan 14 = .ok (.getfield 50, 3) := by decide +kernel
theorem d_Mo_findSpan_17 : decode b_Mo_findSpan 17 = .ok (.iload 4, 2) := by decide +kernel
theorem d_Mo_findSpan_19 : decode b_Mo_findSpan 19 = .ok (.aload_n 0, 1) := by decide +kernel
theorem d_Mo_findSpan_20 : decode b_Mo_findSpan 20 = .ok (.iload_n 3, 1) := by decide +kernel
theorem d_Mo_findSpan_21 : decode b_Mo_findSpan 21 = .ok (.iload_n 1, 1) := by decide +kernel
theorem d_Mo_findSpan_22 : decode b_Mo_findSpan 22 = .ok (.invokevirtual 167, 3) := by decide +kernel
theorem d_Mo_findSpan_25 : decode b_Mo_findSpan 25 = .ok (.lastore, 1) := by decide +kernel
theorem d_Mo_findSpan_26 : decode b_Mo_findSpan 26 = .ok (.aload_n 0, 1) := by decide +kernel
theorem d_Mo_findSpan_27 : decode b_Mo_findSpan 27 = .ok (.getfield 53, 3) := by decide +kernel
theorem d_Mo_findSpan_30 : decode b_Mo_findSpan 30 = .ok (.iload 4, 2) := by decide +kernel
theorem d_Mo_findSpan_32 : decode b_Mo_findSpan 32 = .ok (.aload_n 0, 1) := by decide +kernel
theorem d_Mo_findSpan_33 : decode b_Mo_findSpan 33 = .ok (.getfield 50, 3) := by decide +kernel
theorem d_Mo_findSpan_36 : decode b_Mo_findSpan 36 = .ok (.iload 4, 2) := by decide +kernel
theorem d_Mo_findSpan_38 : decode b_Mo_findSpan 38 = .ok (.laload, 1) := by decide +kernel
theorem d_Mo_findSpan_39 : decode b_Mo_findSpan 39 = .ok (.lconst 0, 1) := by decide +kernel
theorem d_Mo_findSpan_40 : decode b_Mo_findSpan 40 = .ok (.lcmp, 1) := by decide +kernel
theorem d_Mo_findSpan_41 : decode b_Mo_findSpan 41 = .ok (.ifCond .le 7, 3) := by decide +kernel
theorem d_Mo_findSpan_44 : decode b_Mo_findSpan 44 = .ok (.lconst 1, 1) := by decide +kernel
theorem d_Mo_findSpan_45 : decode b_Mo_findSpan 45 = .ok (.goto 4, 3) := by decide +kernel
theorem d_Mo_findSpan_48 : decode b_Mo_findSpan 48 = .ok (.lconst 0, 1) := by decide +kernel
theorem d_Mo_findSpan_49 : decode b_Mo_findSpan 49 = .ok (.lastore, 1) := by decide +kernel
theorem d_Mo_findSpan_50 : decode b_Mo_findSpan 50 = .ok (.aload_n 0, 1) := by decide +kernel
theorem d_Mo_findSpan_51 : decode b_Mo_findSpan 51 = .ok (.getfield 56, 3) := by decide +kernel
theorem d_Mo_findSpan_54 : decode b_Mo_findSpan 54 = .ok (.iload 4, 2) := by decide +kernel
theorem d_Mo_findSpan_56 : decode b_Mo_findSpan 56 = .ok (.aload_n 0, 1) := by decide +kernel
theorem d_Mo_findSpan_57 : decode b_Mo_findSpan 57 = .ok (.getfield 50, 3) := by decide +kernel
theorem d_Mo_findSpan_60 : decode b_Mo_findSpan 60 = .ok (.iload 4, 2) := by decide +kernel
theorem d_Mo_findSpan_62 : decode b_Mo_findSpan 62 = .ok (.laload, 1) := by decide +kernel
theorem d_Mo_findSpan_63 : decode b_Mo_findSpan 63 = .ok (.lastore, 1) := by decide +kernel
theorem d_Mo_findSpan_64 : decode b_Mo_findSpan 64 = .ok (.return_, 1) := by decide +kernel
theorem d_Mo_findSpan_65 : decode b_Mo_findSpan 65 = .ok (.aload_n 0, 1) := by decide +kernel
theorem d_Mo_findSpan_66 : decode b_Mo_findSpan 66 = .ok (.getfield 50, 3) := by decide +kernel
theorem d_Mo_findSpan_69 : decode b_Mo_findSpan 69 = .ok (.iload 4, 2) := by decide +kernel
theorem d_Mo_findSpan_71 : decode b_Mo_findSpan 71 = .ok (.lconst 0, 1) := by decide +kernel
theorem d_Mo_findSpan_72 : decode b_Mo_findSpan 72 = .ok (.lastore, 1) := by decide +kernel
theorem d_Mo_findSpan_73 : decode b_Mo_findSpan 73 = .ok (.aload_n 0, 1) := by decide +kernel
theorem d_Mo_findSpan_74 : decode b_Mo_findSpan 74 = .ok (.getfield 53, 3) := by decide +kernel
theorem d_Mo_findSpan_77 : decode b_Mo_findSpan 77 = .ok (.iload 4, 2) := by decide +kernel
theorem d_Mo_findSpan_79 : decode b_Mo_findSpan 79 = .ok (.lconst 0, 1) := by decide +kernel
theorem d_Mo_findSpan_80 : decode b_Mo_findSpan 80 = .ok (.lastore, 1) := by decide +kernel
theorem d_Mo_findSpan_81 : decode b_Mo_findSpan 81 = .ok (.aload_n 0, 1) := by decide +kernel
theorem d_Mo_findSpan_82 : decode b_Mo_findSpan 82 = .ok (.getfield 56, 3) := by decide +kernel
theorem d_Mo_findSpan_85 : decode b_Mo_findSpan 85 = .ok (.iload 4, 2) := by decide +kernel
theorem d_Mo_findSpan_87 : decode b_Mo_findSpan 87 = .ok (.lconst 0, 1) := by decide +kernel
theorem d_Mo_findSpan_88 : decode b_Mo_findSpan 88 = .ok (.lastore, 1) := by decide +kernel
theorem d_Mo_findSpan_89 : decode b_Mo_findSpan 89 = .ok (.iload_n 1, 1) := by decide +kernel
theorem d_Mo_findSpan_90 : decode b_Mo_findSpan 90 = .ok (.iconst 1, 1) := by decide +kernel
theorem d_Mo_findSpan_91 : decode b_Mo_findSpan 91 = .ok (.iadd, 1) := by decide +kernel
theorem d_Mo_findSpan_92 : decode b_Mo_findSpan 92 = .ok (.istore 5, 2) := by decide +kernel
theorem d_Mo_findSpan_94 : decode b_Mo_findSpan 94 = .ok (.iload 5, 2) := by decide +kernel
theorem d_Mo_findSpan_96 : decode b_Mo_findSpan 96 = .ok (.iload_n 2, 1) := by decide +kernel
theorem d_Mo_findSpan_97 : decode b_Mo_findSpan 97 = .ok (.if_icmp .gt 199, 3) := by decide +kernel
theorem d_Mo_findSpan_100 : decode b_Mo_findSpan 100 = .ok (.iconst 0, 1) := by decide +kernel
theorem d_Mo_findSpan_101 : decode b_Mo_findSpan 101 = .ok (.istore 6, 2) := by decide +kernel
theorem d_Mo_findSpan_103 : decode b_Mo_findSpan 103 = .ok (.iload 6, 2) := by decide +kernel
theorem d_Mo_findSpan_105 : decode b_Mo_findSpan 105 = .ok (.aload_n 0, 1) := by decide +kernel
theorem d_Mo_findSpan_106 : decode b_Mo_findSpan 106 = .ok (.getfield 79, 3) := by decide +kernel
theorem d_Mo_findSpan_109 : decode b_Mo_findSpan 109 = .ok (.if_icmp .ge 181, 3) := by decide +kernel
theorem d_Mo_findSpan_112 : decode b_Mo_findSpan 112 = .ok (.iconst 0, 1) := by decide +kernel
theorem d_Mo_findSpan_113 : decode b_Mo_findSpan 113 = .ok (.istore 7, 2) := by decide +kernel
theorem d_Mo_findSpan_115 : decode b_Mo_findSpan 115 = .ok (.iload 7, 2) := by decide +kernel
theorem d_Mo_findSpan_117 : decode b_Mo_findSpan 117 = .ok (.aload_n 0, 1) := by decide +kernel
theorem d_Mo_findSpan_118 : decode b_Mo_findSpan 118 = .ok (.getfield 79, 3) := by decide +kernel
theorem d_Mo_findSpan_121 : decode b_Mo_findSpan 121 = .ok (.if_icmp .ge 163, 3) := by decide +kernel
theorem d_Mo_findSpan_124 : decode b_Mo_findSpan 124 = .ok (.aload_n 0, 1) := by decide +kernel
theorem d_Mo_findSpan_125 : decode b_Mo_findSpan 125 = .ok (.getfield 16, 3) := by decide +kernel
theorem d_Mo_findSpan_128 : decode b_Mo_findSpan 128 = .ok (.bipush 16, 2) := by decide +kernel
theorem d_Mo_findSpan_130 : decode b_Mo_findSpan 130 = .ok (.iload_n 3, 1) := by decide +kernel
theorem d_Mo_findSpan_131 : decode b_Mo_findSpan 131 = .ok (.imul, 1) := by decide +kernel
theorem d_Mo_findSpan_132 : decode b_Mo_findSpan 132 = .ok (.iconst 4, 1) := by decide +kernel
theorem d_Mo_findSpan_133 : decode b_Mo_findSpan 133 = .ok (.iload 6, 2) := by decide +kernel
theorem d_Mo_findSpan_135 : decode b_Mo_findSpan 135 = .ok (.imul, 1) := by decide +kernel
theorem d_Mo_findSpan_136 : decode b_Mo_findSpan 136 = .ok (.iadd, 1) := by decide +kernel
theorem d_Mo_findSpan_137 : decode b_Mo_findSpan 137 = .ok (.iload 7, 2) := by decide +kernel
theorem d_Mo_findSpan_139 : decode b_Mo_findSpan 139 = .ok (.iadd, 1) := by decide +kernel
theorem d_Mo_findSpan_140 : decode b_Mo_findSpan 140 = .ok (.iaload, 1) := by decide +kernel
theorem d_Mo_findSpan_141 : decode b_Mo_findSpan 141 = .ok (.i2l, 1) := by decide +kernel
theorem d_Mo_findSpan_142 : decode b_Mo_findSpan 142 = .ok (.lstore 8, 2) := by decide +kernel
theorem d_Mo_findSpan_144 : decode b_Mo_findSpan 144 = .ok (.lload 8, 2) := by decide +kernel
theorem d_Mo_findSpan_146 : decode b_Mo_findSpan 146 = .ok (.lconst 0, 1) := by decide +kernel
theorem d_Mo_findSpan_147 : decode b_Mo_findSpan 147 = .ok (.lcmp, 1) := by decide +kernel
theorem d_Mo_findSpan_148 : decode b_Mo_findSpan 148 = .ok (.ifCond .le 130, 3) := by decide +kernel
theorem d_Mo_findSpan_151 : decode b_Mo_findSpan 151 = .ok (.iload_n 1, 1) := by decide +kernel
theorem d_Mo_findSpan_152 : decode b_Mo_findSpan 152 = .ok (.iload 5, 2) := by decide +kernel
theorem d_Mo_findSpan_154 : decode b_Mo_findSpan 154 = .ok (.iconst 1, 1) := by decide +kernel
theorem d_Mo_findSpan_155 : decode b_Mo_findSpan 155 = .ok (.isub, 1) := by decide +kernel
theorem d_Mo_findSpan_156 : decode b_Mo_findSpan 156 = .ok (.iload 6, 2) := by decide +kernel
theorem d_Mo_findSpan_158 : decode b_Mo_findSpan 158 = .ok (.invokestatic 163, 3) := by decide +kernel
theorem d_Mo_findSpan_161 : decode b_Mo_findSpan 161 = .ok (.istore 10, 2) := by decide +kernel
theorem d_Mo_findSpan_163 : decode b_Mo_findSpan 163 = .ok (.iload 5, 2) := by decide +kernel
theorem d_Mo_findSpan_165 : decode b_Mo_findSpan 165 = .ok (.iload_n 2, 1) := by decide +kernel
theorem d_Mo_findSpan_166 : decode b_Mo_findSpan 166 = .ok (.iload 7, 2) := by decide +kernel
theorem d_Mo_findSpan_168 : decode b_Mo_findSpan 168 = .ok (.invokestatic 163, 3) := by decide +kernel
theorem d_Mo_findSpan_171 : decode b_Mo_findSpan 171 = .ok (.istore 11, 2) := by decide +kernel
theorem d_Mo_findSpan_173 : decode b_Mo_findSpan 173 = .ok (.aload_n 0, 1) := by decide +kernel
theorem d_Mo_findSpan_174 : decode b_Mo_findSpan 174 = .ok (.getfield 50, 3) := by decide +kernel
theorem d_Mo_findSpan_177 : decode b_Mo_findSpan 177 = .ok (.iload 4, 2) := by decide +kernel
theorem d_Mo_findSpan_179 : decode b_Mo_findSpan 179 = .ok (.dup2, 1) := by decide +kernel
theorem d_Mo_findSpan_180 : decode b_Mo_findSpan 180 = .ok (.laload, 1) := by decide +kernel
theorem d_Mo_findSpan_181 : decode b_Mo_findSpan 181 = .ok (.lload 8, 2) := by decide +kernel
theorem d_Mo_findSpan_183 : decode b_Mo_findSpan 183 = .ok (.aload_n 0, 1) := by decide +kernel
theorem d_Mo_findSpan_184 : decode b_Mo_findSpan 184 = .ok (.getfield 50, 3) := by decide +kernel
theorem d_Mo_findSpan_187 : decode b_Mo_findSpan 187 = .ok (.iload 10, 2) := by decide +kernel
theorem d_Mo_findSpan_189 : decode b_Mo_findSpan 189 = .ok (.laload, 1) := by decide +kernel
theorem d_Mo_findSpan_190 : decode b_Mo_findSpan 190 = .ok (.lmul, 1) := by decide +kernel
theorem d_Mo_findSpan_191 : decode b_Mo_findSpan 191 = .ok (.aload_n 0, 1) := by decide +kernel
theorem d_Mo_findSpan_192 : decode b_Mo_findSpan 192 = .ok (.getfield 50, 3) := by decide +kernel
theorem d_Mo_findSpan_195 : decode b_Mo_findSpan 195 = .ok (.iload 11, 2) := by decide +kernel
theorem d_Mo_findSpan_197 : decode b_Mo_findSpan 197 = .ok (.laload, 1) := by decide +kernel
theorem d_Mo_findSpan_198 : decode b_Mo_findSpan 198 = .ok (.lmul, 1) := by decide +kernel
theorem d_Mo_findSpan_199 : decode b_Mo_findSpan 199 = .ok (.ladd, 1) := by decide +kernel
theorem d_Mo_findSpan_200 : decode b_Mo_findSpan 200 = .ok (.lastore, 1) := by decide +kernel
theorem d_Mo_findSpan_201 : decode b_Mo_findSpan 201 = .ok (.aload_n 0, 1) := by decide +kernel
theorem d_Mo_findSpan_202 : decode b_Mo_findSpan 202 = .ok (.getfield 53, 3) := by decide +kernel
theorem d_Mo_findSpan_205 : decode b_Mo_findSpan 205 = .ok (.iload 4, 2) := by decide +kernel
theorem d_Mo_findSpan_207 : decode b_Mo_findSpan 207 = .ok (.dup2, 1) := by decide +kernel
theorem d_Mo_findSpan_208 : decode b_Mo_findSpan 208 = .ok (.laload, 1) := by decide +kernel
theorem d_Mo_findSpan_209 : decode b_Mo_findSpan 209 = .ok (.aload_n 0, 1) := by decide +kernel
theorem d_Mo_findSpan_210 : decode b_Mo_findSpan 210 = .ok (.getfield 53, 3) := by decide +kernel
theorem d_Mo_findSpan_213 : decode b_Mo_findSpan 213 = .ok (.iload 10, 2) := by decide +kernel
theorem d_Mo_findSpan_215 : decode b_Mo_findSpan 215 = .ok (.laload, 1) := by decide +kernel
theorem d_Mo_findSpan_216 : decode b_Mo_findSpan 216 = .ok (.aload_n 0, 1) := by decide +kernel
theorem d_Mo_findSpan_217 : decode b_Mo_findSpan 217 = .ok (.getfield 53, 3) := by decide +kernel
theorem d_Mo_findSpan_220 : decode b_Mo_findSpan 220 = .ok (.iload 11, 2) := by decide +kernel
theorem d_Mo_findSpan_222 : decode b_Mo_findSpan 222 = .ok (.laload, 1) := by decide +kernel
theorem d_Mo_findSpan_223 : decode b_Mo_findSpan 223 = .ok (.lmul, 1) := by decide +kernel
theorem d_Mo_findSpan_224 : decode b_Mo_findSpan 224 = .ok (.ladd, 1) := by decide +kernel
theorem d_Mo_findSpan_225 : decode b_Mo_findSpan 225 = .ok (.lastore, 1) := by decide +kernel
theorem d_Mo_findSpan_226 : decode b_Mo_findSpan 226 = .ok (.lload 8, 2) := by decide +kernel
theorem d_Mo_findSpan_228 : decode b_Mo_findSpan 228 = .ok (.aload_n 0, 1) := by decide +kernel
theorem d_Mo_findSpan_229 : decode b_Mo_findSpan 229 = .ok (.getfield 56, 3) := by decide +kernel
theorem d_Mo_findSpan_232 : decode b_Mo_findSpan 232 = .ok (.iload 10, 2) := by decide +kernel
theorem d_Mo_findSpan_234 : decode b_Mo_findSpan 234 = .ok (.laload, 1) := by decide +kernel
theorem d_Mo_findSpan_235 : decode b_Mo_findSpan 235 = .ok (.lmul, 1) := by decide +kernel
theorem d_Mo_findSpan_236 : decode b_Mo_findSpan 236 = .ok (.aload_n 0, 1) := by decide +kernel
theorem d_Mo_findSpan_237 : decode b_Mo_findSpan 237 = .ok (.getfield 56, 3) := by decide +kernel
theorem d_Mo_findSpan_240 : decode b_Mo_findSpan 240 = .ok (.iload 11, 2) := by decide +kernel
theorem d_Mo_findSpan_242 : decode b_Mo_findSpan 242 = .ok (.laload, 1) := by decide +kernel
theorem d_Mo_findSpan_243 : decode b_Mo_findSpan 243 = .ok (.lmul, 1) := by decide +kernel
theorem d_Mo_findSpan_244 : decode b_Mo_findSpan 244 = .ok (.lstore 12, 2) := by decide +kernel
theorem d_Mo_findSpan_246 : decode b_Mo_findSpan 246 = .ok (.aload_n 0, 1) := by decide +kernel
theorem d_Mo_findSpan_247 : decode b_Mo_findSpan 247 = .ok (.getfield 56, 3) := by decide +kernel
theorem d_Mo_findSpan_250 : decode b_Mo_findSpan 250 = .ok (.iload 4, 2) := by decide +kernel
theorem d_Mo_findSpan_252 : decode b_Mo_findSpan 252 = .ok (.lload 12, 2) := by decide +kernel
theorem d_Mo_findSpan_254 : decode b_Mo_findSpan 254 = .ok (.aload_n 0, 1) := by decide +kernel
theorem d_Mo_findSpan_255 : decode b_Mo_findSpan 255 = .ok (.getfield 56, 3) := by decide +kernel
theorem d_Mo_findSpan_258 : decode b_Mo_findSpan 258 = .ok (.iload 4, 2) := by decide +kernel
theorem d_Mo_findSpan_260 : decode b_Mo_findSpan 260 = .ok (.laload, 1) := by decide +kernel
theorem d_Mo_findSpan_261 : decode b_Mo_findSpan 261 = .ok (.lcmp, 1) := by decide +kernel
theorem d_Mo_findSpan_262 : decode b_Mo_findSpan 262 = .ok (.ifCond .le 8, 3) := by decide +kernel
theorem d_Mo_findSpan_265 : decode b_Mo_findSpan 265 = .ok (.lload 12, 2) := by decide +kernel
theorem d_Mo_findSpan_267 : decode b_Mo_findSpan 267 = .ok (.goto 10, 3) := by decide +kernel
theorem d_Mo_findSpan_270 : decode b_Mo_findSpan 270 = .ok (.aload_n 0, 1) := by decide +kernel
theorem d_Mo_findSpan_271 : decode b_Mo_findSpan 271 = .ok (.getfield 56, 3) := by decide +kernel
theorem d_Mo_findSpan_274 : decode b_Mo_findSpan 274 = .ok (.iload 4, 2) := by decide +kernel
theorem d_Mo_findSpan_276 : decode b_Mo_findSpan 276 = .ok (.laload, 1) := by decide +kernel
theorem d_Mo_findSpan_277 : decode b_Mo_findSpan 277 = .ok (.lastore, 1) := by decide +kernel
theorem d_Mo_findSpan_278 : decode b_Mo_findSpan 278 = .ok (.iinc 7 1, 3) := by decide +kernel
theorem d_Mo_findSpan_281 : decode b_Mo_findSpan 281 = .ok (.goto (-166), 3) := by decide +kernel
theorem d_Mo_findSpan_284 : decode b_Mo_findSpan 284 = .ok (.iinc 6 1, 3) := by decide +kernel
theorem d_Mo_findSpan_287 : decode b_Mo_findSpan 287 = .ok (.goto (-184), 3) := by decide +kernel
theorem d_Mo_findSpan_290 : decode b_Mo_findSpan 290 = .ok (.iinc 5 1, 3) := by decide +kernel
theorem d_Mo_findSpan_293 : decode b_Mo_findSpan 293 = .ok (.goto (-199), 3) := by decide +kernel
theorem d_Mo_findSpan_296 : decode b_Mo_findSpan 296 = .ok (.return_, 1) := by decide +kernel
theorem d_Mo_at_0 : decode b_Mo_at 0 = .ok (.bipush 24, 2) := by decide +kernel
theorem d_Mo_at_2 : decode b_Mo_at 2 = .ok (.iload_n 0, 1) := by decide +kernel
theorem d_Mo_at_3 : decode b_Mo_at 3 = .ok (.imul, 1) := by decide +kernel
theorem d_Mo_at_4 : decode b_Mo_at 4 = .ok (.iconst 4, 1) := by decide +kernel
theorem d_Mo_at_5 : decode b_Mo_at 5 = .ok (.iload_n 1, 1) := by decide +kernel
theorem d_Mo_at_6 : decode b_Mo_at 6 = .ok (.imul, 1) := by decide +kernel
theorem d_Mo_at_7 : decode b_Mo_at 7 = .ok (.iadd, 1) := by decide +kernel
theorem d_Mo_at_8 : decode b_Mo_at 8 = .ok (.iload_n 2, 1) := by decide +kernel
theorem d_Mo_at_9 : decode b_Mo_at 9 = .ok (.iadd, 1) := by decide +kernel
theorem d_Mo_at_10 : decode b_Mo_at 10 = .ok (.ireturn, 1) := by decide +kernel
theorem d_Mo_leafOf_0 : decode b_Mo_leafOf 0 = .ok (.aload_n 0, 1) := by decide +kernel
theorem d_Mo_leafOf_1 : decode b_Mo_leafOf 1 = .ok (.getfield 22, 3) := by decide +kernel
theorem d_Mo_leafOf_4 : decode b_Mo_leafOf 4 = .ok (.iload_n 2, 1) := by decide +kernel
theorem d_Mo_leafOf_5 : decode b_Mo_leafOf 5 = .ok (.iaload, 1) := by decide +kernel
theorem d_Mo_leafOf_6 : decode b_Mo_leafOf 6 = .ok (.istore_n 3, 1) := by decide +kernel
theorem d_Mo_leafOf_7 : decode b_Mo_leafOf 7 = .ok (.iconst 4, 1) := by decide +kernel
theorem d_Mo_leafOf_8 : decode b_Mo_leafOf 8 = .ok (.iload_n 1, 1) := by decide +kernel
theorem d_Mo_leafOf_9 : decode b_Mo_leafOf 9 = .ok (.imul, 1) := by decide +kernel
theorem d_Mo_leafOf_10 : decode b_Mo_leafOf 10 = .ok (.istore 4, 2) := by decide +kernel
theorem d_Mo_leafOf_12 : decode b_Mo_leafOf 12 = .ok (.iload_n 3, 1) := by decide +kernel
theorem d_Mo_leafOf_13 : decode b_Mo_leafOf 13 = .ok (.ifCond .lt 16, 3) := by decide +kernel
theorem d_Mo_leafOf_16 : decode b_Mo_leafOf 16 = .ok (.aload_n 0, 1) := by decide +kernel
theorem d_Mo_leafOf_17 : decode b_Mo_leafOf 17 = .ok (.getfield 19, 3) := by decide +kernel
theorem d_Mo_leafOf_20 : decode b_Mo_leafOf 20 = .ok (.iload 4, 2) := by decide +kernel
theorem d_Mo_leafOf_22 : decode b_Mo_leafOf 22 = .ok (.iload_n 3, 1) := by decide +kernel
theorem d_Mo_leafOf_23 : decode b_Mo_leafOf 23 = .ok (.iadd, 1) := by decide +kernel
theorem d_Mo_leafOf_24 : decode b_Mo_leafOf 24 = .ok (.iaload, 1) := by decide +kernel
theorem d_Mo_leafOf_25 : decode b_Mo_leafOf 25 = .ok (.i2l, 1) := by decide +kernel
theorem d_Mo_leafOf_26 : decode b_Mo_leafOf 26 = .ok (.goto 41, 3) := by decide +kernel
theorem d_Mo_leafOf_29 : decode b_Mo_leafOf 29 = .ok (.aload_n 0, 1) := by decide +kernel
theorem d_Mo_leafOf_30 : decode b_Mo_leafOf 30 = .ok (.getfield 19, 3) := by decide +kernel
theorem d_Mo_leafOf_33 : decode b_Mo_leafOf 33 = .ok (.iload 4, 2) := by decide +kernel
theorem d_Mo_leafOf_35 : decode b_Mo_leafOf 35 = .ok (.iaload, 1) := by decide +kernel
theorem d_Mo_leafOf_36 : decode b_Mo_leafOf 36 = .ok (.aload_n 0, 1) := by decide +kernel
theorem d_Mo_leafOf_37 : decode b_Mo_leafOf 37 = .ok (.getfield 19, 3) := by decide +kernel
theorem d_Mo_leafOf_40 : decode b_Mo_leafOf 40 = .ok (.iload 4, 2) := by decide +kernel
theorem d_Mo_leafOf_42 : decode b_Mo_leafOf 42 = .ok (.iconst 1, 1) := by decide +kernel
theorem d_Mo_leafOf_43 : decode b_Mo_leafOf 43 = .ok (.iadd, 1) := by decide +kernel
theorem d_Mo_leafOf_44 : decode b_Mo_leafOf 44 = .ok (.iaload, 1) := by decide +kernel
theorem d_Mo_leafOf_45 : decode b_Mo_leafOf 45 = .ok (.iadd, 1) := by decide +kernel
theorem d_Mo_leafOf_46 : decode b_Mo_leafOf 46 = .ok (.aload_n 0, 1) := by decide +kernel
theorem d_Mo_leafOf_47 : decode b_Mo_leafOf 47 = .ok (.getfield 19, 3) := by decide +kernel
theorem d_Mo_leafOf_50 : decode b_Mo_leafOf 50 = .ok (.iload 4, 2) := by decide +kernel
theorem d_Mo_leafOf_52 : decode b_Mo_leafOf 52 = .ok (.iconst 2, 1) := by decide +kernel
theorem d_Mo_leafOf_53 : decode b_Mo_leafOf 53 = .ok (.iadd, 1) := by decide +kernel
theorem d_Mo_leafOf_54 : decode b_Mo_leafOf 54 = .ok (.iaload, 1) := by decide +kernel
theorem d_Mo_leafOf_55 : decode b_Mo_leafOf 55 = .ok (.iadd, 1) := by decide +kernel
theorem d_Mo_leafOf_56 : decode b_Mo_leafOf 56 = .ok (.aload_n 0, 1) := by decide +kernel
theorem d_Mo_leafOf_57 : decode b_Mo_leafOf 57 = .ok (.getfield 19, 3) := by decide +kernel
theorem d_Mo_leafOf_60 : decode b_Mo_leafOf 60 = .ok (.iload 4, 2) := by decide +kernel
theorem d_Mo_leafOf_62 : decode b_Mo_leafOf 62 = .ok (.iconst 3, 1) := by decide +kernel
theorem d_Mo_leafOf_63 : decode b_Mo_leafOf 63 = .ok (.iadd, 1) := by decide +kernel
theorem d_Mo_leafOf_64 : decode b_Mo_leafOf 64 = .ok (.iaload, 1) := by decide +kernel
theorem d_Mo_leafOf_65 : decode b_Mo_leafOf 65 = .ok (.iadd, 1) := by decide +kernel
theorem d_Mo_leafOf_66 : decode b_Mo_leafOf 66 = .ok (.i2l, 1) := by decide +kernel
theorem d_Mo_leafOf_67 : decode b_Mo_leafOf 67 = .ok (.lreturn, 1) := by decide +kernel
theorem d_Mo_whole_0 : decode b_Mo_whole 0 = .ok (.iconst 0, 1) := by decide +kernel
theorem d_Mo_whole_1 : decode b_Mo_whole 1 = .ok (.aload_n 0, 1) := by decide +kernel
theorem d_Mo_whole_2 : decode b_Mo_whole 2 = .ok (.getfield 82, 3) := by decide +kernel
theorem d_Mo_whole_5 : decode b_Mo_whole 5 = .ok (.iconst 1, 1) := by decide +kernel
theorem d_Mo_whole_6 : decode b_Mo_whole 6 = .ok (.isub, 1) := by decide +kernel
theorem d_Mo_whole_7 : decode b_Mo_whole 7 = .ok (.iload_n 1, 1) := by decide +kernel
theorem d_Mo_whole_8 : decode b_Mo_whole 8 = .ok (.invokestatic 163, 3) := by decide +kernel
theorem d_Mo_whole_11 : decode b_Mo_whole 11 = .ok (.ireturn, 1) := by decide +kernel
theorem d_Mo_treeCount_0 : decode b_Mo_treeCount 0 = .ok (.aload_n 0, 1) := by decide +kernel
theorem d_Mo_treeCount_1 : decode b_Mo_treeCount 1 = .ok (.iload_n 1, 1) := by decide +kernel
theorem d_Mo_treeCount_2 : decode b_Mo_treeCount 2 = .ok (.invokevirtual 95, 3) := by decide +kernel
theorem d_Mo_treeCount_5 : decode b_Mo_treeCount 5 = .ok (.ifCond .ne 7, 3) := by decide +kernel
theorem d_Mo_treeCount_8 : decode b_Mo_treeCount 8 = .ok (.ldc2_w 145, 3) := by decide +kernel
theorem d_Mo_treeCount_11 : decode b_Mo_treeCount 11 = .ok (.lreturn, 1) := by decide +kernel
theorem d_Mo_treeCount_12 : decode b_Mo_treeCount 12 = .ok (.aload_n 0, 1) := by decide +kernel
theorem d_Mo_treeCount_13 : decode b_Mo_treeCount 13 = .ok (.getfield 82, 3) := by decide +kernel
theorem d_Mo_treeCount_16 : decode b_Mo_treeCount 16 = .ok (.ifCond .ne 5, 3) := by decide +kernel
theorem d_Mo_treeCount_19 : decode b_Mo_treeCount 19 = .ok (.lconst 0, 1) := by decide +kernel
theorem d_Mo_treeCount_20 : decode b_Mo_treeCount 20 = .ok (.lreturn, 1) := by decide +kernel
theorem d_Mo_treeCount_21 : decode b_Mo_treeCount 21 = .ok (.aload_n 0, 1) := by decide +kernel
theorem d_Mo_treeCount_22 : decode b_Mo_treeCount 22 = .ok (.iconst 0, 1) := by decide +kernel
theorem d_Mo_treeCount_23 : decode b_Mo_treeCount 23 = .ok (.iconst 0, 1) := by decide +kernel
theorem d_Mo_treeCount_24 : decode b_Mo_treeCount 24 = .ok (.iconst 4, 1) := by decide +kernel
theorem d_Mo_treeCount_25 : decode b_Mo_treeCount 25 = .ok (.invokevirtual 171, 3) := by decide +kernel
theorem d_Mo_treeCount_28 : decode b_Mo_treeCount 28 = .ok (.aload_n 0, 1) := by decide +kernel
theorem d_Mo_treeCount_29 : decode b_Mo_treeCount 29 = .ok (.getfield 53, 3) := by decide +kernel
theorem d_Mo_treeCount_32 : decode b_Mo_treeCount 32 = .ok (.aload_n 0, 1) := by decide +kernel
theorem d_Mo_treeCount_33 : decode b_Mo_treeCount 33 = .ok (.iload_n 1, 1) := by decide +kernel
theorem d_Mo_treeCount_34 : decode b_Mo_treeCount 34 = .ok (.invokevirtual 174, 3) := by decide +kernel
theorem d_Mo_treeCount_37 : decode b_Mo_treeCount 37 = .ok (.laload, 1) := by decide +kernel
theorem d_Mo_treeCount_38 : decode b_Mo_treeCount 38 = .ok (.lreturn, 1) := by decide +kernel
theorem d_Mo_treeBest_0 : decode b_Mo_treeBest 0 = .ok (.aload_n 0, 1) := by decide +kernel
theorem d_Mo_treeBest_1 : decode b_Mo_treeBest 1 = .ok (.iload_n 1, 1) := by decide +kernel
theorem d_Mo_treeBest_2 : decode b_Mo_treeBest 2 = .ok (.invokevirtual 177, 3) := by decide +kernel
theorem d_Mo_treeBest_5 : decode b_Mo_treeBest 5 = .ok (.lstore_n 2, 1) := by decide +kernel
theorem d_Mo_treeBest_6 : decode b_Mo_treeBest 6 = .ok (.lload_n 2, 1) := by decide +kernel
theorem d_Mo_treeBest_7 : decode b_Mo_treeBest 7 = .ok (.lconst 0, 1) := by decide +kernel
theorem d_Mo_treeBest_8 : decode b_Mo_treeBest 8 = .ok (.lcmp, 1) := by decide +kernel
theorem d_Mo_treeBest_9 : decode b_Mo_treeBest 9 = .ok (.ifCond .ge 9, 3) := by decide +kernel
theorem d_Mo_treeBest_12 : decode b_Mo_treeBest 12 = .ok (.ldc2_w 145, 3) := by decide +kernel
theorem d_Mo_treeBest_15 : decode b_Mo_treeBest 15 = .ok (.goto 25, 3) := by decide +kernel
theorem d_Mo_treeBest_18 : decode b_Mo_treeBest 18 = .ok (.lload_n 2, 1) := by decide +kernel
theorem d_Mo_treeBest_19 : decode b_Mo_treeBest 19 = .ok (.lconst 0, 1) := by decide +kernel
theorem d_Mo_treeBest_20 : decode b_Mo_treeBest 20 = .ok (.lcmp, 1) := by decide +kernel
theorem d_Mo_treeBest_21 : decode b_Mo_treeBest 21 = .ok (.ifCond .ne 9, 3) := by decide +kernel
theorem d_Mo_treeBest_24 : decode b_Mo_treeBest 24 = .ok (.ldc2_w 149, 3) := by decide +kernel
theorem d_Mo_treeBest_27 : decode b_Mo_treeBest 27 = .ok (.goto 13, 3) := by decide +kernel
theorem d_Mo_treeBest_30 : decode b_Mo_treeBest 30 = .ok (.aload_n 0, 1) := by decide +kernel
theorem d_Mo_treeBest_31 : decode b_Mo_treeBest 31 = .ok (.getfield 56, 3) := by decide +kernel
theorem d_Mo_treeBest_34 : decode b_Mo_treeBest 34 = .ok (.aload_n 0, 1) := by decide +kernel
theorem d_Mo_treeBest_35 : decode b_Mo_treeBest 35 = .ok (.iload_n 1, 1) := by decide +kernel
theorem d_Mo_treeBest_36 : decode b_Mo_treeBest 36 = .ok (.invokevirtual 174, 3) := by decide +kernel
theorem d_Mo_treeBest_39 : decode b_Mo_treeBest 39 = .ok (.laload, 1) := by decide +kernel
theorem d_Mo_treeBest_40 : decode b_Mo_treeBest 40 = .ok (.lreturn, 1) := by decide +kernel
theorem d_Mo_treeAt_0 : decode b_Mo_treeAt 0 = .ok (.aload_n 0, 1) := by decide +kernel
theorem d_Mo_treeAt_1 : decode b_Mo_treeAt 1 = .ok (.iload_n 1, 1) := by decide +kernel
theorem d_Mo_treeAt_2 : decode b_Mo_treeAt 2 = .ok (.invokevirtual 177, 3) := by decide +kernel
theorem d_Mo_treeAt_5 : decode b_Mo_treeAt 5 = .ok (.lstore_n 3, 1) := by decide +kernel
theorem d_Mo_treeAt_6 : decode b_Mo_treeAt 6 = .ok (.lload_n 3, 1) := by decide +kernel
theorem d_Mo_treeAt_7 : decode b_Mo_treeAt 7 = .ok (.lconst 0, 1) := by decide +kernel
theorem d_Mo_treeAt_8 : decode b_Mo_treeAt 8 = .ok (.lcmp, 1) := by decide +kernel
theorem d_Mo_treeAt_9 : decode b_Mo_treeAt 9 = .ok (.ifCond .ge 5, 3) := by decide +kernel
theorem d_Mo_treeAt_12 : decode b_Mo_treeAt 12 = .ok (.iconst (-1), 1) := by decide +kernel
theorem d_Mo_treeAt_13 : decode b_Mo_treeAt 13 = .ok (.ireturn, 1) := by decide +kernel
theorem d_Mo_treeAt_14 : decode b_Mo_treeAt 14 = .ok (.lload_n 3, 1) := by decide +kernel
theorem d_Mo_treeAt_15 : decode b_Mo_treeAt 15 = .ok (.lconst 0, 1) := by decide +kernel
theorem d_Mo_treeAt_16 : decode b_Mo_treeAt 16 = .ok (.lcmp, 1) := by decide +kernel
theorem d_Mo_treeAt_17 : decode b_Mo_treeAt 17 = .ok (.ifCond .ne 6, 3) := by decide +kernel
theorem d_Mo_treeAt_20 : decode b_Mo_treeAt 20 = .ok (.bipush (-3), 2) := by decide +kernel
theorem d_Mo_treeAt_22 : decode b_Mo_treeAt 22 = .ok (.ireturn, 1) := by decide +kernel
theorem d_Mo_treeAt_23 : decode b_Mo_treeAt 23 = .ok (.iload_n 2, 1) := by decide +kernel
theorem d_Mo_treeAt_24 : decode b_Mo_treeAt 24 = .ok (.ifCond .lt 15, 3) := by decide +kernel
theorem d_Mo_treeAt_27 : decode b_Mo_treeAt 27 = .ok (.iload_n 2, 1) := by decide +kernel
theorem d_Mo_treeAt_28 : decode b_Mo_treeAt 28 = .ok (.iconst 2, 1) := by decide +kernel
theorem d_Mo_treeAt_29 : decode b_Mo_treeAt 29 = .ok (.aload_n 0, 1) := by decide +kernel
theorem d_Mo_treeAt_30 : decode b_Mo_treeAt 30 = .ok (.getfield 82, 3) := by decide +kernel
theorem d_Mo_treeAt_33 : decode b_Mo_treeAt 33 = .ok (.imul, 1) := by decide +kernel
theorem d_Mo_treeAt_34 : decode b_Mo_treeAt 34 = .ok (.iconst 2, 1) := by decide +kernel
theorem d_Mo_treeAt_35 : decode b_Mo_treeAt 35 = .ok (.isub, 1) := by decide +kernel
theorem d_Mo_treeAt_36 : decode b_Mo_treeAt 36 = .ok (.if_icmp .le 5, 3) := by decide +kernel
theorem d_Mo_treeAt_39 : decode b_Mo_treeAt 39 = .ok (.iconst (-1), 1) := by decide +kernel
theorem d_Mo_treeAt_40 : decode b_Mo_treeAt 40 = .ok (.ireturn, 1) := by decide +kernel
theorem d_Mo_treeAt_41 : decode b_Mo_treeAt 41 = .ok (.iconst 1, 1) := by decide +kernel
theorem d_Mo_treeAt_42 : decode b_Mo_treeAt 42 = .ok (.istore 5, 2) := by decide +kernel
theorem d_Mo_treeAt_44 : decode b_Mo_treeAt 44 = .ok (.aload_n 0, 1) := by decide +kernel
theorem d_Mo_treeAt_45 : decode b_Mo_treeAt 45 = .ok (.getfield 59, 3) := by decide +kernel
theorem d_Mo_treeAt_48 : decode b_Mo_treeAt 48 = .ok (.iconst 0, 1) := by decide +kernel
theorem d_Mo_treeAt_49 : decode b_Mo_treeAt 49 = .ok (.iconst 0, 1) := by decide +kernel
theorem d_Mo_treeAt_50 : decode b_Mo_treeAt 50 = .ok (.iastore, 1) := by decide +kernel
theorem d_Mo_treeAt_51 : decode b_Mo_treeAt 51 = .ok (.aload_n 0, 1) := by decide +kernel
theorem d_Mo_treeAt_52 : decode b_Mo_treeAt 52 = .ok (.getfield 62, 3) := by decide +kernel
theorem d_Mo_treeAt_55 : decode b_Mo_treeAt 55 = .ok (.iconst 0, 1) := by decide +kernel
theorem d_Mo_treeAt_56 : decode b_Mo_treeAt 56 = .ok (.aload_n 0, 1) := by decide +kernel
theorem d_Mo_treeAt_57 : decode b_Mo_treeAt 57 = .ok (.getfield 82, 3) := by decide +kernel
theorem d_Mo_treeAt_60 : decode b_Mo_treeAt 60 = .ok (.iconst 1, 1) := by decide +kernel
theorem d_Mo_treeAt_61 : decode b_Mo_treeAt 61 = .ok (.isub, 1) := by decide +kernel
theorem d_Mo_treeAt_62 : decode b_Mo_treeAt 62 = .ok (.iastore, 1) := by decide +kernel
theorem d_Mo_treeAt_63 : decode b_Mo_treeAt 63 = .ok (.aload_n 0, 1) := by decide +kernel
theorem d_Mo_treeAt_64 : decode b_Mo_treeAt 64 = .ok (.getfield 65, 3) := by decide +kernel
theorem d_Mo_treeAt_67 : decode b_Mo_treeAt 67 = .ok (.iconst 0, 1) := by decide +kernel
theorem d_Mo_treeAt_68 : decode b_Mo_treeAt 68 = .ok (.iload_n 1, 1) := by decide +kernel
theorem d_Mo_treeAt_69 : decode b_Mo_treeAt 69 = .ok (.iastore, 1) := by decide +kernel
theorem d_Mo_treeAt_70 : decode b_Mo_treeAt 70 = .ok (.iload_n 2, 1) := by decide +kernel
theorem d_Mo_treeAt_71 : decode b_Mo_treeAt 71 = .ok (.istore 6, 2) := by decide +kernel
theorem d_Mo_treeAt_73 : decode b_Mo_treeAt 73 = .ok (.iload 5, 2) := by decide +kernel
theorem d_Mo_treeAt_75 : decode b_Mo_treeAt 75 = .ok (.ifCond .le 141, 3) := by decide +kernel
theorem d_Mo_treeAt_78 : decode b_Mo_treeAt 78 = .ok (.iinc 5 (-1), 3) := by decide +kernel
theorem d_Mo_treeAt_81 : decode b_Mo_treeAt 81 = .ok (.aload_n 0, 1) := by decide +kernel
theorem d_Mo_treeAt_82 : decode b_Mo_treeAt 82 = .ok (.getfield 59, 3) := by decide +kernel
theorem d_Mo_treeAt_85 : decode b_Mo_treeAt 85 = .ok (.iload 5, 2) := by decide +kernel
theorem d_Mo_treeAt_87 : decode b_Mo_treeAt 87 = .ok (.iaload, 1) := by decide +kernel
theorem d_Mo_treeAt_88 : decode b_Mo_treeAt 88 = .ok (.istore 7, 2) := by decide +kernel
theorem d_Mo_treeAt_90 : decode b_Mo_treeAt 90 = .ok (.aload_n 0, 1) := by decide +kernel
theorem d_Mo_treeAt_91 : decode b_Mo_treeAt 91 = .ok (.getfield 62, 3) := by decide +kernel
theorem d_Mo_treeAt_94 : decode b_Mo_treeAt 94 = .ok (.iload 5, 2) := by decide +kernel
theorem d_Mo_treeAt_96 : decode b_Mo_treeAt 96 = .ok (.iaload, 1) := by decide +kernel
theorem d_Mo_treeAt_97 : decode b_Mo_treeAt 97 = .ok (.istore 8, 2) := by decide +kernel
theorem d_Mo_treeAt_99 : decode b_Mo_treeAt 99 = .ok (.aload_n 0, 1) := by decide +kernel
theorem d_Mo_treeAt_100 : decode b_Mo_treeAt 100 = .ok (.iload 7, 2) := by decide +kernel
theorem d_Mo_treeAt_102 : decode b_Mo_treeAt 102 = .ok (.iload 8, 2) := by decide +kernel
theorem d_Mo_treeAt_104 : decode b_Mo_treeAt 104 = .ok (.aload_n 0, 1) := by decide +kernel
theorem d_Mo_treeAt_105 : decode b_Mo_treeAt 105 = .ok (.getfield 65, 3) := by decide +kernel
theorem d_Mo_treeAt_108 : decode b_Mo_treeAt 108 = .ok (.iload 5, 2) := by decide +kernel
theorem d_Mo_treeAt_110 : decode b_Mo_treeAt 110 = .ok (.iaload, 1) := by decide +kernel
theorem d_Mo_treeAt_111 : decode b_Mo_treeAt 111 = .ok (.invokevirtual 181, 3) := by decide +kernel
theorem d_Mo_treeAt_114 : decode b_Mo_treeAt 114 = .ok (.istore 9, 2) := by decide +kernel
theorem d_Mo_treeAt_116 : decode b_Mo_treeAt 116 = .ok (.iload 6, 2) := by decide +kernel
theorem d_Mo_treeAt_118 : decode b_Mo_treeAt 118 = .ok (.ifCond .ne 6, 3) := by decide +kernel
theorem d_Mo_treeAt_121 : decode b_Mo_treeAt 121 = .ok (.iload 9, 2) := by decide +kernel
theorem d_Mo_treeAt_123 : decode b_Mo_treeAt 123 = .ok (.ireturn, 1) := by decide +kernel
theorem d_Mo_treeAt_124 : decode b_Mo_treeAt 124 = .ok (.iinc 6 (-1), 3) := by decide +kernel
theorem d_Mo_treeAt_127 : decode b_Mo_treeAt 127 = .ok (.iload 9, 2) := by decide +kernel
theorem d_Mo_treeAt_129 : decode b_Mo_treeAt 129 = .ok (.ifCond .le 84, 3) := by decide +kernel
theorem d_Mo_treeAt_132 : decode b_Mo_treeAt 132 = .ok (.iload 9, 2) := by decide +kernel
theorem d_Mo_treeAt_134 : decode b_Mo_treeAt 134 = .ok (.bipush 100, 2) := by decide +kernel
theorem d_Mo_treeAt_136 : decode b_Mo_treeAt 136 = .ok (.idiv, 1) := by decide +kernel
theorem d_Mo_treeAt_137 : decode b_Mo_treeAt 137 = .ok (.istore 10, 2) := by decide +kernel
theorem d_Mo_treeAt_139 : decode b_Mo_treeAt 139 = .ok (.aload_n 0, 1) := by decide +kernel
theorem d_Mo_treeAt_140 : decode b_Mo_treeAt 140 = .ok (.getfield 59, 3) := by decide +kernel
theorem d_Mo_treeAt_143 : decode b_Mo_treeAt 143 = .ok (.iload 5, 2) := by decide +kernel
theorem d_Mo_treeAt_145 : decode b_Mo_treeAt 145 = .ok (.iload 10, 2) := by decide +kernel
theorem d_Mo_treeAt_147 : decode b_Mo_treeAt 147 = .ok (.iastore, 1) := by decide +kernel
theorem d_Mo_treeAt_148 : decode b_Mo_treeAt 148 = .ok (.aload_n 0, 1) := by decide +kernel
theorem d_Mo_treeAt_149 : decode b_Mo_treeAt 149 = .ok (.getfield 62, 3) := by decide +kernel
theorem d_Mo_treeAt_152 : decode b_Mo_treeAt 152 = .ok (.iload 5, 2) := by decide +kernel
theorem d_Mo_treeAt_154 : decode b_Mo_treeAt 154 = .ok (.iload 8, 2) := by decide +kernel
theorem d_Mo_treeAt_156 : decode b_Mo_treeAt 156 = .ok (.iastore, 1) := by decide +kernel
theorem d_Mo_treeAt_157 : decode b_Mo_treeAt 157 = .ok (.aload_n 0, 1) := by decide +kernel
theorem d_Mo_treeAt_158 : decode b_Mo_treeAt 158 = .ok (.getfield 65, 3) := by decide +kernel
theorem d_Mo_treeAt_161 : decode b_Mo_treeAt 161 = .ok (.iload 5, 2) := by decide +kernel
theorem d_Mo_treeAt_163 : decode b_Mo_treeAt 163 = .ok (.iload 9, 2) := by decide +kernel
theorem d_Mo_treeAt_165 : decode b_Mo_treeAt 165 = .ok (.bipush 10, 2) := by decide +kernel
theorem d_Mo_treeAt_167 : decode b_Mo_treeAt 167 = .ok (.irem, 1) := by decide +kernel
theorem d_Mo_treeAt_168 : decode b_Mo_treeAt 168 = .ok (.iastore, 1) := by decide +kernel
theorem d_Mo_treeAt_169 : decode b_Mo_treeAt 169 = .ok (.aload_n 0, 1) := by decide +kernel
theorem d_Mo_treeAt_170 : decode b_Mo_treeAt 170 = .ok (.getfield 59, 3) := by decide +kernel
theorem d_Mo_treeAt_173 : decode b_Mo_treeAt 173 = .ok (.iload 5, 2) := by decide +kernel
theorem d_Mo_treeAt_175 : decode b_Mo_treeAt 175 = .ok (.iconst 1, 1) := by decide +kernel
theorem d_Mo_treeAt_176 : decode b_Mo_treeAt 176 = .ok (.iadd, 1) := by decide +kernel
theorem d_Mo_treeAt_177 : decode b_Mo_treeAt 177 = .ok (.iload 7, 2) := by decide +kernel
theorem d_Mo_treeAt_179 : decode b_Mo_treeAt 179 = .ok (.iastore, 1) := by decide +kernel
theorem d_Mo_treeAt_180 : decode b_Mo_treeAt 180 = .ok (.aload_n 0, 1) := by decide +kernel
theorem d_Mo_treeAt_181 : decode b_Mo_treeAt 181 = .ok (.getfield 62, 3) := by decide +kernel
theorem d_Mo_treeAt_184 : decode b_Mo_treeAt 184 = .ok (.iload 5, 2) := by decide +kernel
theorem d_Mo_treeAt_186 : decode b_Mo_treeAt 186 = .ok (.iconst 1, 1) := by decide +kernel
theorem d_Mo_treeAt_187 : decode b_Mo_treeAt 187 = .ok (.iadd, 1) := by decide +kernel
theorem d_Mo_treeAt_188 : decode b_Mo_treeAt 188 = .ok (.iload 10, 2) := by decide +kernel
theorem d_Mo_treeAt_190 : decode b_Mo_treeAt 190 = .ok (.iconst 1, 1) := by decide +kernel
theorem d_Mo_treeAt_191 : decode b_Mo_treeAt 191 = .ok (.isub, 1) := by decide +kernel
theorem d_Mo_treeAt_192 : decode b_Mo_treeAt 192 = .ok (.iastore, 1) := by decide +kernel
theorem d_Mo_treeAt_193 : decode b_Mo_treeAt 193 = .ok (.aload_n 0, 1) := by decide +kernel
theorem d_Mo_treeAt_194 : decode b_Mo_treeAt 194 = .ok (.getfield 65, 3) := by decide +kernel
theorem d_Mo_treeAt_197 : decode b_Mo_treeAt 197 = .ok (.iload 5, 2) := by decide +kernel
theorem d_Mo_treeAt_199 : decode b_Mo_treeAt 199 = .ok (.iconst 1, 1) := by decide +kernel
theorem d_Mo_treeAt_200 : decode b_Mo_treeAt 200 = .ok (.iadd, 1) := by decide +kernel
theorem d_Mo_treeAt_201 : decode b_Mo_treeAt 201 = .ok (.iload 9, 2) := by decide +kernel
theorem d_Mo_treeAt_203 : decode b_Mo_treeAt 203 = .ok (.bipush 10, 2) := by decide +kernel
theorem d_Mo_treeAt_205 : decode b_Mo_treeAt 205 = .ok (.idiv, 1) := by decide +kernel
theorem d_Mo_treeAt_206 : decode b_Mo_treeAt 206 = .ok (.bipush 10, 2) := by decide +kernel
theorem d_Mo_treeAt_208 : decode b_Mo_treeAt 208 = .ok (.irem, 1) := by decide +kernel
theorem d_Mo_treeAt_209 : decode b_Mo_treeAt 209 = .ok (.iastore, 1) := by decide +kernel
theorem d_Mo_treeAt_210 : decode b_Mo_treeAt 210 = .ok (.iinc 5 2, 3) := by decide +kernel
theorem d_Mo_treeAt_213 : decode b_Mo_treeAt 213 = .ok (.goto (-140), 3) := by decide +kernel
theorem d_Mo_treeAt_216 : decode b_Mo_treeAt 216 = .ok (.iconst (-1), 1) := by decide +kernel
theorem d_Mo_treeAt_217 : decode b_Mo_treeAt 217 = .ok (.ireturn, 1) := by decide +kernel
theorem d_Mo_leastOf_0 : decode b_Mo_leastOf 0 = .ok (.iload_n 1, 1) := by decide +kernel
theorem d_Mo_leastOf_1 : decode b_Mo_leastOf 1 = .ok (.iload_n 2, 1) := by decide +kernel
theorem d_Mo_leastOf_2 : decode b_Mo_leastOf 2 = .ok (.if_icmp .ne 5, 3) := by decide +kernel
theorem d_Mo_leastOf_5 : decode b_Mo_leastOf 5 = .ok (.iconst 0, 1) := by decide +kernel
theorem d_Mo_leastOf_6 : decode b_Mo_leastOf 6 = .ok (.ireturn, 1) := by decide +kernel
theorem d_Mo_leastOf_7 : decode b_Mo_leastOf 7 = .ok (.iload_n 1, 1) := by decide +kernel
theorem d_Mo_leastOf_8 : decode b_Mo_leastOf 8 = .ok (.iconst 1, 1) := by decide +kernel
theorem d_Mo_leastOf_9 : decode b_Mo_leastOf 9 = .ok (.iadd, 1) := by decide +kernel
theorem d_Mo_leastOf_10 : decode b_Mo_leastOf 10 = .ok (.istore 4, 2) := by decide +kernel
theorem d_Mo_leastOf_12 : decode b_Mo_leastOf 12 = .ok (.iload 4, 2) := by decide +kernel
theorem d_Mo_leastOf_14 : decode b_Mo_leastOf 14 = .ok (.iload_n 2, 1) := by decide +kernel
theorem d_Mo_leastOf_15 : decode b_Mo_leastOf 15 = .ok (.if_icmp .gt 127, 3) := by decide +kernel
theorem d_Mo_leastOf_18 : decode b_Mo_leastOf 18 = .ok (.iconst 0, 1) := by decide +kernel
theorem d_Mo_leastOf_19 : decode b_Mo_leastOf 19 = .ok (.istore 5, 2) := by decide +kernel
theorem d_Mo_leastOf_21 : decode b_Mo_leastOf 21 = .ok (.iload 5, 2) := by decide +kernel
theorem d_Mo_leastOf_23 : decode b_Mo_leastOf 23 = .ok (.aload_n 0, 1) := by decide +kernel
theorem d_Mo_leastOf_24 : decode b_Mo_leastOf 24 = .ok (.getfield 79, 3) := by decide +kernel
theorem d_Mo_leastOf_27 : decode b_Mo_leastOf 27 = .ok (.if_icmp .ge 109, 3) := by decide +kernel
theorem d_Mo_leastOf_30 : decode b_Mo_leastOf 30 = .ok (.iconst 0, 1) := by decide +kernel
theorem d_Mo_leastOf_31 : decode b_Mo_leastOf 31 = .ok (.istore 6, 2) := by decide +kernel
theorem d_Mo_leastOf_33 : decode b_Mo_leastOf 33 = .ok (.iload 6, 2) := by decide +kernel
theorem d_Mo_leastOf_35 : decode b_Mo_leastOf 35 = .ok (.aload_n 0, 1) := by decide +kernel
theorem d_Mo_leastOf_36 : decode b_Mo_leastOf 36 = .ok (.getfield 79, 3) := by decide +kernel
theorem d_Mo_leastOf_39 : decode b_Mo_leastOf 39 = .ok (.if_icmp .ge 91, 3) := by decide +kernel
theorem d_Mo_leastOf_42 : decode b_Mo_leastOf 42 = .ok (.aload_n 0, 1) := by decide +kernel
theorem d_Mo_leastOf_43 : decode b_Mo_leastOf 43 = .ok (.getfield 16, 3) := by decide +kernel
theorem d_Mo_leastOf_46 : decode b_Mo_leastOf 46 = .ok (.bipush 16, 2) := by decide +kernel
theorem d_Mo_leastOf_48 : decode b_Mo_leastOf 48 = .ok (.iload_n 3, 1) := by decide +kernel
theorem d_Mo_leastOf_49 : decode b_Mo_leastOf 49 = .ok (.imul, 1) := by decide +kernel
theorem d_Mo_leastOf_50 : decode b_Mo_leastOf 50 = .ok (.iconst 4, 1) := by decide +kernel
theorem d_Mo_leastOf_51 : decode b_Mo_leastOf 51 = .ok (.iload 5, 2) := by decide +kernel
theorem d_Mo_leastOf_53 : decode b_Mo_leastOf 53 = .ok (.imul, 1) := by decide +kernel
theorem d_Mo_leastOf_54 : decode b_Mo_leastOf 54 = .ok (.iadd, 1) := by decide +kernel
theorem d_Mo_leastOf_55 : decode b_Mo_leastOf 55 = .ok (.iload 6, 2) := by decide +kernel
theorem d_Mo_leastOf_57 : decode b_Mo_leastOf 57 = .ok (.iadd, 1) := by decide +kernel
theorem d_Mo_leastOf_58 : decode b_Mo_leastOf 58 = .ok (.iaload, 1) := by decide +kernel
theorem d_Mo_leastOf_59 : decode b_Mo_leastOf 59 = .ok (.i2l, 1) := by decide +kernel
theorem d_Mo_leastOf_60 : decode b_Mo_leastOf 60 = .ok (.aload_n 0, 1) := by decide +kernel
theorem d_Mo_leastOf_61 : decode b_Mo_leastOf 61 = .ok (.getfield 56, 3) := by decide +kernel
theorem d_Mo_leastOf_64 : decode b_Mo_leastOf 64 = .ok (.iload_n 1, 1) := by decide +kernel
theorem d_Mo_leastOf_65 : decode b_Mo_leastOf 65 = .ok (.iload 4, 2) := by decide +kernel
theorem d_Mo_leastOf_67 : decode b_Mo_leastOf 67 = .ok (.iconst 1, 1) := by decide +kernel
theorem d_Mo_leastOf_68 : decode b_Mo_leastOf 68 = .ok (.isub, 1) := by decide +kernel
theorem d_Mo_leastOf_69 : decode b_Mo_leastOf 69 = .ok (.iload 5, 2) := by decide +kernel
theorem d_Mo_leastOf_71 : decode b_Mo_leastOf 71 = .ok (.invokestatic 163, 3) := by decide +kernel
theorem d_Mo_leastOf_74 : decode b_Mo_leastOf 74 = .ok (.laload, 1) := by decide +kernel
theorem d_Mo_leastOf_75 : decode b_Mo_leastOf 75 = .ok (.lmul, 1) := by decide +kernel
theorem d_Mo_leastOf_76 : decode b_Mo_leastOf 76 = .ok (.aload_n 0, 1) := by decide +kernel
theorem d_Mo_leastOf_77 : decode b_Mo_leastOf 77 = .ok (.getfield 56, 3) := by decide +kernel
theorem d_Mo_leastOf_80 : decode b_Mo_leastOf 80 = .ok (.iload 4, 2) := by decide +kernel
theorem d_Mo_leastOf_82 : decode b_Mo_leastOf 82 = .ok (.iload_n 2, 1) := by decide +kernel
theorem d_Mo_leastOf_83 : decode b_Mo_leastOf 83 = .ok (.iload 6, 2) := by decide +kernel
theorem d_Mo_leastOf_85 : decode b_Mo_leastOf 85 = .ok (.invokestatic 163, 3) := by decide +kernel
theorem d_Mo_leastOf_88 : decode b_Mo_leastOf 88 = .ok (.laload, 1) := by decide +kernel
theorem d_Mo_leastOf_89 : decode b_Mo_leastOf 89 = .ok (.lmul, 1) := by decide +kernel
theorem d_Mo_leastOf_90 : decode b_Mo_leastOf 90 = .ok (.lstore 7, 2) := by decide +kernel
theorem d_Mo_leastOf_92 : decode b_Mo_leastOf 92 = .ok (.lload 7, 2) := by decide +kernel
theorem d_Mo_leastOf_94 : decode b_Mo_leastOf 94 = .ok (.aload_n 0, 1) := by decide +kernel
theorem d_Mo_leastOf_95 : decode b_Mo_leastOf 95 = .ok (.getfield 56, 3) := by decide +kernel
theorem d_Mo_leastOf_98 : decode b_Mo_leastOf 98 = .ok (.iload_n 1, 1) := by decide +kernel
theorem d_Mo_leastOf_99 : decode b_Mo_leastOf 99 = .ok (.iload_n 2, 1) := by decide +kernel
theorem d_Mo_leastOf_100 : decode b_Mo_leastOf 100 = .ok (.iload_n 3, 1) := by decide +kernel
theorem d_Mo_leastOf_101 : decode b_Mo_leastOf 101 = .ok (.invokestatic 163, 3) := by decide +kernel
theorem d_Mo_leastOf_104 : decode b_Mo_leastOf 104 = .ok (.laload, 1) := by decide +kernel
theorem d_Mo_leastOf_105 : decode b_Mo_leastOf 105 = .ok (.lcmp, 1) := by decide +kernel
theorem d_Mo_leastOf_106 : decode b_Mo_leastOf 106 = .ok (.ifCond .ne 18, 3) := by decide +kernel
theorem d_Mo_leastOf_109 : decode b_Mo_leastOf 109 = .ok (.bipush 100, 2) := by decide +kernel
theorem d_Mo_leastOf_111 : decode b_Mo_leastOf 111 = .ok (.iload 4, 2) := by decide +kernel
theorem d_Mo_leastOf_113 : decode b_Mo_leastOf 113 = .ok (.imul, 1) := by decide +kernel
theorem d_Mo_leastOf_114 : decode b_Mo_leastOf 114 = .ok (.bipush 10, 2) := by decide +kernel
theorem d_Mo_leastOf_116 : decode b_Mo_leastOf 116 = .ok (.iload 5, 2) := by decide +kernel
theorem d_Mo_leastOf_118 : decode b_Mo_leastOf 118 = .ok (.imul, 1) := by decide +kernel
theorem d_Mo_leastOf_119 : decode b_Mo_leastOf 119 = .ok (.iadd, 1) := by decide +kernel
theorem d_Mo_leastOf_120 : decode b_Mo_leastOf 120 = .ok (.iload 6, 2) := by decide +kernel
theorem d_Mo_leastOf_122 : decode b_Mo_leastOf 122 = .ok (.iadd, 1) := by decide +kernel
theorem d_Mo_leastOf_123 : decode b_Mo_leastOf 123 = .ok (.ireturn, 1) := by decide +kernel
theorem d_Mo_leastOf_124 : decode b_Mo_leastOf 124 = .ok (.iinc 6 1, 3) := by decide +kernel
theorem d_Mo_leastOf_127 : decode b_Mo_leastOf 127 = .ok (.goto (-94), 3) := by decide +kernel
theorem d_Mo_leastOf_130 : decode b_Mo_leastOf 130 = .ok (.iinc 5 1, 3) := by decide +kernel
theorem d_Mo_leastOf_133 : decode b_Mo_leastOf 133 = .ok (.goto (-112), 3) := by decide +kernel
theorem d_Mo_leastOf_136 : decode b_Mo_leastOf 136 = .ok (.iinc 4 1, 3) := by decide +kernel
theorem d_Mo_leastOf_139 : decode b_Mo_leastOf 139 = .ok (.goto (-127), 3) := by decide +kernel
theorem d_Mo_leastOf_142 : decode b_Mo_leastOf 142 = .ok (.iconst (-1), 1) := by decide +kernel
theorem d_Mo_leastOf_143 : decode b_Mo_leastOf 143 = .ok (.ireturn, 1) := by decide +kernel
theorem d_Mo_span_0 : decode b_Mo_span 0 = .ok (.aload_n 0, 1) := by decide +kernel
theorem d_Mo_span_1 : decode b_Mo_span 1 = .ok (.iload_n 1, 1) := by decide +kernel
theorem d_Mo_span_2 : decode b_Mo_span 2 = .ok (.invokevirtual 95, 3) := by decide +kernel
theorem d_Mo_span_5 : decode b_Mo_span 5 = .ok (.ifCond .eq 34, 3) := by decide +kernel
theorem d_Mo_span_8 : decode b_Mo_span 8 = .ok (.aload_n 0, 1) := by decide +kernel
theorem d_Mo_span_9 : decode b_Mo_span 9 = .ok (.iload_n 2, 1) := by decide +kernel
theorem d_Mo_span_10 : decode b_Mo_span 10 = .ok (.invokevirtual 95, 3) := by decide +kernel
theorem d_Mo_span_13 : decode b_Mo_span 13 = .ok (.ifCond .eq 26, 3) := by decide +kernel
theorem d_Mo_span_16 : decode b_Mo_span 16 = .ok (.aload_n 0, 1) := by decide +kernel
theorem d_Mo_span_17 : decode b_Mo_span 17 = .ok (.iload_n 3, 1) := by decide +kernel
theorem d_Mo_span_18 : decode b_Mo_span 18 = .ok (.invokevirtual 98, 3) := by decide +kernel
theorem d_Mo_span_21 : decode b_Mo_span 21 = .ok (.ifCond .eq 18, 3) := by decide +kernel
theorem d_Mo_span_24 : decode b_Mo_span 24 = .ok (.aload_n 0, 1) := by decide +kernel
theorem d_Mo_span_25 : decode b_Mo_span 25 = .ok (.iload 4, 2) := by decide +kernel
theorem d_Mo_span_27 : decode b_Mo_span 27 = .ok (.invokevirtual 98, 3) := by decide +kernel
theorem d_Mo_span_30 : decode b_Mo_span 30 = .ok (.ifCond .eq 9, 3) := by decide +kernel
theorem d_Mo_span_33 : decode b_Mo_span 33 = .ok (.iload_n 3, 1) := by decide +kernel
theorem d_Mo_span_34 : decode b_Mo_span 34 = .ok (.iload 4, 2) := by decide +kernel
theorem d_Mo_span_36 : decode b_Mo_span 36 = .ok (.if_icmp .le 7, 3) := by decide +kernel
theorem d_Mo_span_39 : decode b_Mo_span 39 = .ok (.ldc2_w 145, 3) := by decide +kernel
theorem d_Mo_span_42 : decode b_Mo_span 42 = .ok (.lreturn, 1) := by decide +kernel
theorem d_Mo_span_43 : decode b_Mo_span 43 = .ok (.iload 5, 2) := by decide +kernel
theorem d_Mo_span_45 : decode b_Mo_span 45 = .ok (.ifCond .lt 9, 3) := by decide +kernel
theorem d_Mo_span_48 : decode b_Mo_span 48 = .ok (.iload 5, 2) := by decide +kernel
theorem d_Mo_span_50 : decode b_Mo_span 50 = .ok (.iconst 1, 1) := by decide +kernel
theorem d_Mo_span_51 : decode b_Mo_span 51 = .ok (.if_icmp .le 7, 3) := by decide +kernel
theorem d_Mo_span_54 : decode b_Mo_span 54 = .ok (.ldc2_w 147, 3) := by decide +kernel
theorem d_Mo_span_57 : decode b_Mo_span 57 = .ok (.lreturn, 1) := by decide +kernel
theorem d_Mo_span_58 : decode b_Mo_span 58 = .ok (.aload_n 0, 1) := by decide +kernel
theorem d_Mo_span_59 : decode b_Mo_span 59 = .ok (.iload_n 1, 1) := by decide +kernel
theorem d_Mo_span_60 : decode b_Mo_span 60 = .ok (.invokevirtual 177, 3) := by decide +kernel
theorem d_Mo_span_63 : decode b_Mo_span 63 = .ok (.lstore 6, 2) := by decide +kernel
theorem d_Mo_span_65 : decode b_Mo_span 65 = .ok (.lload 6, 2) := by decide +kernel
theorem d_Mo_span_67 : decode b_Mo_span 67 = .ok (.lconst 0, 1) := by decide +kernel
theorem d_Mo_span_68 : decode b_Mo_span 68 = .ok (.lcmp, 1) := by decide +kernel
theorem d_Mo_span_69 : decode b_Mo_span 69 = .ok (.ifCond .ne 7, 3) := by decide +kernel
theorem d_Mo_span_72 : decode b_Mo_span 72 = .ok (.ldc2_w 149, 3) := by decide +kernel
theorem d_Mo_span_75 : decode b_Mo_span 75 = .ok (.lreturn, 1) := by decide +kernel
theorem d_Mo_span_76 : decode b_Mo_span 76 = .ok (.aload_n 0, 1) := by decide +kernel
theorem d_Mo_span_77 : decode b_Mo_span 77 = .ok (.iload_n 3, 1) := by decide +kernel
theorem d_Mo_span_78 : decode b_Mo_span 78 = .ok (.iload 4, 2) := by decide +kernel
theorem d_Mo_span_80 : decode b_Mo_span 80 = .ok (.iload_n 2, 1) := by decide +kernel
theorem d_Mo_span_81 : decode b_Mo_span 81 = .ok (.invokevirtual 171, 3) := by decide +kernel
theorem d_Mo_span_84 : decode b_Mo_span 84 = .ok (.aload_n 0, 1) := by decide +kernel
theorem d_Mo_span_85 : decode b_Mo_span 85 = .ok (.getfield 50, 3) := by decide +kernel
theorem d_Mo_span_88 : decode b_Mo_span 88 = .ok (.aload_n 0, 1) := by decide +kernel
theorem d_Mo_span_89 : decode b_Mo_span 89 = .ok (.iload_n 1, 1) := by decide +kernel
theorem d_Mo_span_90 : decode b_Mo_span 90 = .ok (.invokevirtual 174, 3) := by decide +kernel
theorem d_Mo_span_93 : decode b_Mo_span 93 = .ok (.laload, 1) := by decide +kernel
theorem d_Mo_span_94 : decode b_Mo_span 94 = .ok (.lstore 8, 2) := by decide +kernel
theorem d_Mo_span_96 : decode b_Mo_span 96 = .ok (.aload_n 0, 1) := by decide +kernel
theorem d_Mo_span_97 : decode b_Mo_span 97 = .ok (.iload_n 3, 1) := by decide +kernel
theorem d_Mo_span_98 : decode b_Mo_span 98 = .ok (.iload 4, 2) := by decide +kernel
theorem d_Mo_span_100 : decode b_Mo_span 100 = .ok (.iconst (-1), 1) := by decide +kernel
theorem d_Mo_span_101 : decode b_Mo_span 101 = .ok (.invokevirtual 171, 3) := by decide +kernel
theorem d_Mo_span_104 : decode b_Mo_span 104 = .ok (.lload 8, 2) := by decide +kernel
theorem d_Mo_span_106 : decode b_Mo_span 106 = .ok (.aload_n 0, 1) := by decide +kernel
theorem d_Mo_span_107 : decode b_Mo_span 107 = .ok (.getfield 50, 3) := by decide +kernel
theorem d_Mo_span_110 : decode b_Mo_span 110 = .ok (.aload_n 0, 1) := by decide +kernel
theorem d_Mo_span_111 : decode b_Mo_span 111 = .ok (.iload_n 1, 1) := by decide +kernel
theorem d_Mo_span_112 : decode b_Mo_span 112 = .ok (.invokevirtual 174, 3) := by decide +kernel
theorem d_Mo_span_115 : decode b_Mo_span 115 = .ok (.laload, 1) := by decide +kernel
theorem d_Mo_span_116 : decode b_Mo_span 116 = .ok (.lsub, 1) := by decide +kernel
theorem d_Mo_span_117 : decode b_Mo_span 117 = .ok (.lload 6, 2) := by decide +kernel
theorem d_Mo_span_119 : decode b_Mo_span 119 = .ok (.iload 5, 2) := by decide +kernel
theorem d_Mo_span_121 : decode b_Mo_span 121 = .ok (.invokestatic 151, 3) := by decide +kernel
theorem d_Mo_span_124 : decode b_Mo_span 124 = .ok (.lreturn, 1) := by decide +kernel
end
section
theorem d_La_law_0 : decode code 0 = .ok (.new 7, 3) := by decide +kernel
theorem d_La_law_3 : decode code 3 = .ok (.dup, 1) := by decide +kernel
theorem d_La_law_4 : decode code 4 = .ok (.invokespecial 9, 3) := by decide +kernel
theorem d_La_law_7 : decode code 7 = .ok (.astore_n 1, 1) := by decide +kernel
theorem d_La_law_8 : decode code 8 = .ok (.new 10, 3) := by decide +kernel
theorem d_La_law_11 : decode code 11 = .ok (.dup, 1) := by decide +kernel
theorem d_La_law_12 : decode code 12 = .ok (.invokespecial 12, 3) := by decide +kernel
theorem d_La_law_15 : decode code 15 = .ok (.astore_n 2, 1) := by decide +kernel
theorem d_La_law_16 : decode code 16 = .ok (.iconst 0, 1) := by decide +kernel
theorem d_La_law_17 : decode code 17 = .ok (.istore_n 3, 1) := by decide +kernel
theorem d_La_law_18 : decode code 18 = .ok (.iload_n 3, 1) := by decide +kernel
theorem d_La_law_19 : decode code 19 = .ok (.aload_n 0, 1) := by decide +kernel
theorem d_La_law_20 : decode code 20 = .ok (.arraylength, 1) := by decide +kernel
theorem d_La_law_21 : decode code 21 = .ok (.bipush 6, 2) := by decide +kernel
theorem d_La_law_23 : decode code 23 = .ok (.isub, 1) := by decide +kernel
theorem d_La_law_24 : decode code 24 = .ok (.if_icmp .gt 868, 3) := by decide +kernel
theorem d_La_law_27 : decode code 27 = .ok (.aload_n 0, 1) := by decide +kernel
theorem d_La_law_28 : decode code 28 = .ok (.iload_n 3, 1) := by decide +kernel
theorem d_La_law_29 : decode code 29 = .ok (.iaload, 1) := by decide +kernel
theorem d_La_law_30 : decode code 30 = .ok (.bipush 31, 2) := by decide +kernel
theorem d_La_law_32 : decode code 32 = .ok (.iand, 1) := by decide +kernel
theorem d_La_law_33 : decode code 33 = .ok (.tableswitch 853 0 23 #[111, 124, 167, 210, 223, 276, 319, 342, 355, 388, 402, 415, 459, 503, 557, 580, 604, 637, 661, 684, 708, 732, 756, 789], 111) := by decide +kernel
theorem d_La_law_144 : decode code 144 = .ok (.aload_n 1, 1) := by decide +kernel
theorem d_La_law_145 : decode code 145 = .ok (.invokevirtual 13, 3) := by decide +kernel
theorem d_La_law_148 : decode code 148 = .ok (.aload_n 2, 1) := by decide +kernel
theorem d_La_law_149 : decode code 149 = .ok (.invokevirtual 17, 3) := by decide +kernel
theorem d_La_law_152 : decode code 152 = .ok (.if_icmp .eq 734, 3) := by decide +kernel
theorem d_La_law_155 : decode code 155 = .ok (.iconst 0, 1) := by decide +kernel
theorem d_La_law_156 : decode code 156 = .ok (.ireturn, 1) := by decide +kernel
theorem d_La_law_157 : decode code 157 = .ok (.aload_n 1, 1) := by decide +kernel
theorem d_La_law_158 : decode code 158 = .ok (.aload_n 0, 1) := by decide +kernel
theorem d_La_law_159 : decode code 159 = .ok (.iload_n 3, 1) := by decide +kernel
theorem d_La_law_160 : decode code 160 = .ok (.iconst 1, 1) := by decide +kernel
theorem d_La_law_161 : decode code 161 = .ok (.iadd, 1) := by decide +kernel
theorem d_La_law_162 : decode code 162 = .ok (.iaload, 1) := by decide +kernel
theorem d_La_law_163 : decode code 163 = .ok (.aload_n 0, 1) := by decide +kernel
theorem d_La_law_164 : decode code 164 = .ok (.iload_n 3, 1) := by decide +kernel
theorem d_La_law_165 : decode code 165 = .ok (.iconst 2, 1) := by decide +kernel
theorem d_La_law_166 : decode code 166 = .ok (.iadd, 1) := by decide +kernel
theorem d_La_law_167 : decode code 167 = .ok (.iaload, 1) := by decide +kernel
theorem d_La_law_168 : decode code 168 = .ok (.aload_n 0, 1) := by decide +kernel
theorem d_La_law_169 : decode code 169 = .ok (.iload_n 3, 1) := by decide +kernel
theorem d_La_law_170 : decode code 170 = .ok (.iconst 3, 1) := by decide +kernel
theorem d_La_law_171 : decode code 171 = .ok (.iadd, 1) := by decide +kernel
theorem d_La_law_172 : decode code 172 = .ok (.iaload, 1) := by decide +kernel
theorem d_La_law_173 : decode code 173 = .ok (.invokevirtual 18, 3) := by decide +kernel
theorem d_La_law_176 : decode code 176 = .ok (.aload_n 2, 1) := by decide +kernel
theorem d_La_law_177 : decode code 177 = .ok (.aload_n 0, 1) := by decide +kernel
theorem d_La_law_178 : decode code 178 = .ok (.iload_n 3, 1) := by decide +kernel
theorem d_La_law_179 : decode code 179 = .ok (.iconst 1, 1) := by decide +kernel
theorem d_La_law_180 : decode code 180 = .ok (.iadd, 1) := by decide +kernel
theorem d_La_law_181 : decode code 181 = .ok (.iaload, 1) := by decide +kernel
theorem d_La_law_182 : decode code 182 = .ok (.aload_n 0, 1) := by decide +kernel
theorem d_La_law_183 : decode code 183 = .ok (.iload_n 3, 1) := by decide +kernel
theorem d_La_law_184 : decode code 184 = .ok (.iconst 2, 1) := by decide +kernel
theorem d_La_law_185 : decode code 185 = .ok (.iadd, 1) := by decide +kernel
theorem d_La_law_186 : decode code 186 = .ok (.iaload, 1) := by decide +kernel
theorem d_La_law_187 : decode code 187 = .ok (.aload_n 0, 1) := by decide +kernel
theorem d_La_law_188 : decode code 188 = .ok (.iload_n 3, 1) := by decide +kernel
theorem d_La_law_189 : decode code 189 = .ok (.iconst 3, 1) := by decide +kernel
theorem d_La_law_190 : decode code 190 = .ok (.iadd, 1) := by decide +kernel
theorem d_La_law_191 : decode code 191 = .ok (.iaload, 1) := by decide +kernel
theorem d_La_law_192 : decode code 192 = .ok (.invokevirtual 22, 3) := by decide +kernel
theorem d_La_law_195 : decode code 195 = .ok (.if_icmp .eq 691, 3) := by decide +kernel
theorem d_La_law_198 : decode code 198 = .ok (.iconst 0, 1) := by decide +kernel
theorem d_La_law_199 : decode code 199 = .ok (.ireturn, 1) := by decide +kernel
theorem d_La_law_200 : decode code 200 = .ok (.aload_n 1, 1) := by decide +kernel
theorem d_La_law_201 : decode code 201 = .ok (.aload_n 0, 1) := by decide +kernel
theorem d_La_law_202 : decode code 202 = .ok (.iload_n 3, 1) := by decide +kernel
theorem d_La_law_203 : decode code 203 = .ok (.iconst 1, 1) := by decide +kernel
theorem d_La_law_204 : decode code 204 = .ok (.iadd, 1) := by decide +kernel
theorem d_La_law_205 : decode code 205 = .ok (.iaload, 1) := by decide +kernel
theorem d_La_law_206 : decode code 206 = .ok (.aload_n 0, 1) := by decide +kernel
theorem d_La_law_207 : decode code 207 = .ok (.iload_n 3, 1) := by decide +kernel
theorem d_La_law_208 : decode code 208 = .ok (.iconst 2, 1) := by decide +kernel
theorem d_La_law_209 : decode code 209 = .ok (.iadd, 1) := by decide +kernel
theorem d_La_law_210 : decode code 210 = .ok (.iaload, 1) := by decide +kernel
theorem d_La_law_211 : decode code 211 = .ok (.aload_n 0, 1) := by decide +kernel
theorem d_La_law_212 : decode code 212 = .ok (.iload_n 3, 1) := by decide +kernel
theorem d_La_law_213 : decode code 213 = .ok (.iconst 3, 1) := by decide +kernel
theorem d_La_law_214 : decode code 214 = .ok (.iadd, 1) := by decide +kernel
theorem d_La_law_215 : decode code 215 = .ok (.iaload, 1) := by decide +kernel
theorem d_La_law_216 : decode code 216 = .ok (.invokevirtual 23, 3) := by decide +kernel
theorem d_La_law_219 : decode code 219 = .ok (.aload_n 2, 1) := by decide +kernel
theorem d_La_law_220 : decode code 220 = .ok (.aload_n 0, 1) := by decide +kernel
theorem d_La_law_221 : decode code 221 = .ok (.iload_n 3, 1) := by decide +kernel
theorem d_La_law_222 : decode code 222 = .ok (.iconst 1, 1) := by decide +kernel
theorem d_La_law_223 : decode code 223 = .ok (.iadd, 1) := by decide +kernel
theorem d_La_law_224 : decode code 224 = .ok (.iaload, 1) := by decide +kernel
theorem d_La_law_225 : decode code 225 = .ok (.aload_n 0, 1) := by decide +kernel
theorem d_La_law_226 : decode code 226 = .ok (.iload_n 3, 1) := by decide +kernel
theorem d_La_law_227 : decode code 227 = .ok (.iconst 2, 1) := by decide +kernel
theorem d_La_law_228 : decode code 228 = .ok (.iadd, 1) := by decide +kernel
theorem d_La_law_229 : decode code 229 = .ok (.iaload, 1) := by decide +kernel
theorem d_La_law_230 : decode code 230 = .ok (.aload_n 0, 1) := by decide +kernel
theorem d_La_law_231 : decode code 231 = .ok (.iload_n 3, 1) := by decide +kernel
theorem d_La_law_232 : decode code 232 = .ok (.iconst 3, 1) := by decide +kernel
theorem d_La_law_233 : decode code 233 = .ok (.iadd, 1) := by decide +kernel
theorem d_La_law_234 : decode code 234 = .ok (.iaload, 1) := by decide +kernel
theorem d_La_law_235 : decode code 235 = .ok (.invokevirtual 26, 3) := by decide +kernel
theorem d_La_law_238 : decode code 238 = .ok (.if_icmp .eq 648, 3) := by decide +kernel
theorem d_La_law_241 : decode code 241 = .ok (.iconst 0, 1) := by decide +kernel
theorem d_La_law_242 : decode code 242 = .ok (.ireturn, 1) := by decide +kernel
theorem d_La_law_243 : decode code 243 = .ok (.aload_n 1, 1) := by decide +kernel
theorem d_La_law_244 : decode code 244 = .ok (.invokevirtual 27, 3) := by decide +kernel
theorem d_La_law_247 : decode code 247 = .ok (.aload_n 2, 1) := by decide +kernel
theorem d_La_law_248 : decode code 248 = .ok (.invokevirtual 30, 3) := by decide +kernel
theorem d_La_law_251 : decode code 251 = .ok (.if_icmp .eq 635, 3) := by decide +kernel
theorem d_La_law_254 : decode code 254 = .ok (.iconst 0, 1) := by decide +kernel
theorem d_La_law_255 : decode code 255 = .ok (.ireturn, 1) := by decide +kernel
theorem d_La_law_256 : decode code 256 = .ok (.aload_n 1, 1) := by decide +kernel
theorem d_La_law_257 : decode code 257 = .ok (.aload_n 0, 1) := by decide +kernel
theorem d_La_law_258 : decode code 258 = .ok (.iload_n 3, 1) := by decide +kernel
theorem d_La_law_259 : decode code 259 = .ok (.iconst 1, 1) := by decide +kernel
theorem d_La_law_260 : decode code 260 = .ok (.iadd, 1) := by decide +kernel
theorem d_La_law_261 : decode code 261 = .ok (.iaload, 1) := by decide +kernel
theorem d_La_law_262 : decode code 262 = .ok (.aload_n 0, 1) := by decide +kernel
theorem d_La_law_263 : decode code 263 = .ok (.iload_n 3, 1) := by decide +kernel
theorem d_La_law_264 : decode code 264 = .ok (.iconst 2, 1) := by decide +kernel
theorem d_La_law_265 : decode code 265 = .ok (.iadd, 1) := by decide +kernel
theorem d_La_law_266 : decode code 266 = .ok (.iaload, 1) := by decide +kernel
theorem d_La_law_267 : decode code 267 = .ok (.aload_n 0, 1) := by decide +kernel
theorem d_La_law_268 : decode code 268 = .ok (.iload_n 3, 1) := by decide +kernel
theorem d_La_law_269 : decode code 269 = .ok (.iconst 3, 1) := by decide +kernel
theorem d_La_law_270 : decode code 270 = .ok (.iadd, 1) := by decide +kernel
theorem d_La_law_271 : decode code 271 = .ok (.iaload, 1) := by decide +kernel
theorem d_La_law_272 : decode code 272 = .ok (.aload_n 0, 1) := by decide +kernel
theorem d_La_law_273 : decode code 273 = .ok (.iload_n 3, 1) := by decide +kernel
theorem d_La_law_274 : decode code 274 = .ok (.iconst 4, 1) := by decide +kernel
theorem d_La_law_275 : decode code 275 = .ok (.iadd, 1) := by decide +kernel
theorem d_La_law_276 : decode code 276 = .ok (.iaload, 1) := by decide +kernel
theorem d_La_law_277 : decode code 277 = .ok (.invokevirtual 31, 3) := by decide +kernel
theorem d_La_law_280 : decode code 280 = .ok (.aload_n 2, 1) := by decide +kernel
theorem d_La_law_281 : decode code 281 = .ok (.aload_n 0, 1) := by decide +kernel
theorem d_La_law_282 : decode code 282 = .ok (.iload_n 3, 1) := by decide +kernel
theorem d_La_law_283 : decode code 283 = .ok (.iconst 1, 1) := by decide +kernel
theorem d_La_law_284 : decode code 284 = .ok (.iadd, 1) := by decide +kernel
theorem d_La_law_285 : decode code 285 = .ok (.iaload, 1) := by decide +kernel
theorem d_La_law_286 : decode code 286 = .ok (.aload_n 0, 1) := by decide +kernel
theorem d_La_law_287 : decode code 287 = .ok (.iload_n 3, 1) := by decide +kernel
theorem d_La_law_288 : decode code 288 = .ok (.iconst 2, 1) := by decide +kernel
theorem d_La_law_289 : decode code 289 = .ok (.iadd, 1) := by decide +kernel
theorem d_La_law_290 : decode code 290 = .ok (.iaload, 1) := by decide +kernel
theorem d_La_law_291 : decode code 291 = .ok (.aload_n 0, 1) := by decide +kernel
theorem d_La_law_292 : decode code 292 = .ok (.iload_n 3, 1) := by decide +kernel
theorem d_La_law_293 : decode code 293 = .ok (.iconst 3, 1) := by decide +kernel
theorem d_La_law_294 : decode code 294 = .ok (.iadd, 1) := by decide +kernel
theorem d_La_law_295 : decode code 295 = .ok (.iaload, 1) := by decide +kernel
theorem d_La_law_296 : decode code 296 = .ok (.aload_n 0, 1) := by decide +kernel
theorem d_La_law_297 : decode code 297 = .ok (.iload_n 3, 1) := by decide +kernel
theorem d_La_law_298 : decode code 298 = .ok (.iconst 4, 1) := by decide +kernel
theorem d_La_law_299 : decode code 299 = .ok (.iadd, 1) := by decide +kernel
theorem d_La_law_300 : decode code 300 = .ok (.iaload, 1) := by decide +kernel
theorem d_La_law_301 : decode code 301 = .ok (.invokevirtual 35, 3) := by decide +kernel
theorem d_La_law_304 : decode code 304 = .ok (.if_icmp .eq 582, 3) := by decide +kernel
theorem d_La_law_307 : decode code 307 = .ok (.iconst 0, 1) := by decide +kernel
theorem d_La_law_308 : decode code 308 = .ok (.ireturn, 1) := by decide +kernel
theorem d_La_law_309 : decode code 309 = .ok (.aload_n 1, 1) := by decide +kernel
theorem d_La_law_310 : decode code 310 = .ok (.aload_n 0, 1) := by decide +kernel
theorem d_La_law_311 : decode code 311 = .ok (.iload_n 3, 1) := by decide +kernel
theorem d_La_law_312 : decode code 312 = .ok (.iconst 1, 1) := by decide +kernel
theorem d_La_law_313 : decode code 313 = .ok (.iadd, 1) := by decide +kernel
theorem d_La_law_314 : decode code 314 = .ok (.iaload, 1) := by decide +kernel
theorem d_La_law_315 : decode code 315 = .ok (.aload_n 0, 1) := by decide +kernel
theorem d_La_law_316 : decode code 316 = .ok (.iload_n 3, 1) := by decide +kernel
theorem d_La_law_317 : decode code 317 = .ok (.iconst 2, 1) := by decide +kernel
theorem d_La_law_318 : decode code 318 = .ok (.iadd, 1) := by decide +kernel
theorem d_La_law_319 : decode code 319 = .ok (.iaload, 1) := by decide +kernel
theorem d_La_law_320 : decode code 320 = .ok (.aload_n 0, 1) := by decide +kernel
theorem d_La_law_321 : decode code 321 = .ok (.iload_n 3, 1) := by decide +kernel
theorem d_La_law_322 : decode code 322 = .ok (.iconst 3, 1) := by decide +kernel
theorem d_La_law_323 : decode code 323 = .ok (.iadd, 1) := by decide +kernel
theorem d_La_law_324 : decode code 324 = .ok (.iaload, 1) := by decide +kernel
theorem d_La_law_325 : decode code 325 = .ok (.invokevirtual 36, 3) := by decide +kernel
theorem d_La_law_328 : decode code 328 = .ok (.aload_n 2, 1) := by decide +kernel
theorem d_La_law_329 : decode code 329 = .ok (.aload_n 0, 1) := by decide +kernel
theorem d_La_law_330 : decode code 330 = .ok (.iload_n 3, 1) := by decide +kernel
theorem d_La_law_331 : decode code 331 = .ok (.iconst 1, 1) := by decide +kernel
theorem d_La_law_332 : decode code 332 = .ok (.iadd, 1) := by decide +kernel
theorem d_La_law_333 : decode code 333 = .ok (.iaload, 1) := by decide +kernel
theorem d_La_law_334 : decode code 334 = .ok (.aload_n 0, 1) := by decide +kernel
theorem d_La_law_335 : decode code 335 = .ok (.iload_n 3, 1) := by decide +kernel
theorem d_La_law_336 : decode code 336 = .ok (.iconst 2, 1) := by decide +kernel
theorem d_La_law_337 : decode code 337 = .ok (.iadd, 1) := by decide +kernel
theorem d_La_law_338 : decode code 338 = .ok (.iaload, 1) := by decide +kernel
theorem d_La_law_339 : decode code 339 = .ok (.aload_n 0, 1) := by decide +kernel
theorem d_La_law_340 : decode code 340 = .ok (.iload_n 3, 1) := by decide +kernel
theorem d_La_law_341 : decode code 341 = .ok (.iconst 3, 1) := by decide +kernel
theorem d_La_law_342 : decode code 342 = .ok (.iadd, 1) := by decide +kernel
theorem d_La_law_343 : decode code 343 = .ok (.iaload, 1) := by decide +kernel
theorem d_La_law_344 : decode code 344 = .ok (.invokevirtual 39, 3) := by decide +kernel
theorem d_La_law_347 : decode code 347 = .ok (.if_icmp .eq 539, 3) := by decide +kernel
theorem d_La_law_350 : decode code 350 = .ok (.iconst 0, 1) := by decide +kernel
theorem d_La_law_351 : decode code 351 = .ok (.ireturn, 1) := by decide +kernel
theorem d_La_law_352 : decode code 352 = .ok (.aload_n 1, 1) := by decide +kernel
theorem d_La_law_353 : decode code 353 = .ok (.aload_n 0, 1) := by decide +kernel
theorem d_La_law_354 : decode code 354 = .ok (.iload_n 3, 1) := by decide +kernel
theorem d_La_law_355 : decode code 355 = .ok (.iconst 1, 1) := by decide +kernel
theorem d_La_law_356 : decode code 356 = .ok (.iadd, 1) := by decide +kernel
theorem d_La_law_357 : decode code 357 = .ok (.iaload, 1) := by decide +kernel
theorem d_La_law_358 : decode code 358 = .ok (.invokevirtual 40, 3) := by decide +kernel
theorem d_La_law_361 : decode code 361 = .ok (.aload_n 2, 1) := by decide +kernel
theorem d_La_law_362 : decode code 362 = .ok (.aload_n 0, 1) := by decide +kernel
theorem d_La_law_363 : decode code 363 = .ok (.iload_n 3, 1) := by decide +kernel
theorem d_La_law_364 : decode code 364 = .ok (.iconst 1, 1) := by decide +kernel
theorem d_La_law_365 : decode code 365 = .ok (.iadd, 1) := by decide +kernel
theorem d_La_law_366 : decode code 366 = .ok (.iaload, 1) := by decide +kernel
theorem d_La_law_367 : decode code 367 = .ok (.invokevirtual 44, 3) := by decide +kernel
theorem d_La_law_370 : decode code 370 = .ok (.if_icmp .eq 516, 3) := by decide +kernel
theorem d_La_law_373 : decode code 373 = .ok (.iconst 0, 1) := by decide +kernel
theorem d_La_law_374 : decode code 374 = .ok (.ireturn, 1) := by decide +kernel
theorem d_La_law_375 : decode code 375 = .ok (.aload_n 1, 1) := by decide +kernel
theorem d_La_law_376 : decode code 376 = .ok (.invokevirtual 45, 3) := by decide +kernel
theorem d_La_law_379 : decode code 379 = .ok (.aload_n 2, 1) := by decide +kernel
theorem d_La_law_380 : decode code 380 = .ok (.invokevirtual 48, 3) := by decide +kernel
theorem d_La_law_383 : decode code 383 = .ok (.if_icmp .eq 503, 3) := by decide +kernel
theorem d_La_law_386 : decode code 386 = .ok (.iconst 0, 1) := by decide +kernel
theorem d_La_law_387 : decode code 387 = .ok (.ireturn, 1) := by decide +kernel
theorem d_La_law_388 : decode code 388 = .ok (.aload_n 1, 1) := by decide +kernel
theorem d_La_law_389 : decode code 389 = .ok (.aload_n 0, 1) := by decide +kernel
theorem d_La_law_390 : decode code 390 = .ok (.iload_n 3, 1) := by decide +kernel
theorem d_La_law_391 : decode code 391 = .ok (.iconst 1, 1) := by decide +kernel
theorem d_La_law_392 : decode code 392 = .ok (.iadd, 1) := by decide +kernel
theorem d_La_law_393 : decode code 393 = .ok (.iaload, 1) := by decide +kernel
theorem d_La_law_394 : decode code 394 = .ok (.aload_n 0, 1) := by decide +kernel
theorem d_La_law_395 : decode code 395 = .ok (.iload_n 3, 1) := by decide +kernel
theorem d_La_law_396 : decode code 396 = .ok (.iconst 2, 1) := by decide +kernel
theorem d_La_law_397 : decode code 397 = .ok (.iadd, 1) := by decide +kernel
theorem d_La_law_398 : decode code 398 = .ok (.iaload, 1) := by decide +kernel
theorem d_La_law_399 : decode code 399 = .ok (.invokevirtual 49, 3) := by decide +kernel
theorem d_La_law_402 : decode code 402 = .ok (.aload_n 2, 1) := by decide +kernel
theorem d_La_law_403 : decode code 403 = .ok (.aload_n 0, 1) := by decide +kernel
theorem d_La_law_404 : decode code 404 = .ok (.iload_n 3, 1) := by decide +kernel
theorem d_La_law_405 : decode code 405 = .ok (.iconst 1, 1) := by decide +kernel
theorem d_La_law_406 : decode code 406 = .ok (.iadd, 1) := by decide +kernel
theorem d_La_law_407 : decode code 407 = .ok (.iaload, 1) := by decide +kernel
theorem d_La_law_408 : decode code 408 = .ok (.aload_n 0, 1) := by decide +kernel
theorem d_La_law_409 : decode code 409 = .ok (.iload_n 3, 1) := by decide +kernel
theorem d_La_law_410 : decode code 410 = .ok (.iconst 2, 1) := by decide +kernel
theorem d_La_law_411 : decode code 411 = .ok (.iadd, 1) := by decide +kernel
theorem d_La_law_412 : decode code 412 = .ok (.iaload, 1) := by decide +kernel
theorem d_La_law_413 : decode code 413 = .ok (.invokevirtual 53, 3) := by decide +kernel
theorem d_La_law_416 : decode code 416 = .ok (.if_icmp .eq 470, 3) := by decide +kernel
theorem d_La_law_419 : decode code 419 = .ok (.iconst 0, 1) := by decide +kernel
theorem d_La_law_420 : decode code 420 = .ok (.ireturn, 1) := by decide +kernel
theorem d_La_law_421 : decode code 421 = .ok (.aload_n 1, 1) := by decide +kernel
theorem d_La_law_422 : decode code 422 = .ok (.invokevirtual 54, 3) := by decide +kernel
theorem d_La_law_425 : decode code 425 = .ok (.aload_n 2, 1) := by decide +kernel
theorem d_La_law_426 : decode code 426 = .ok (.invokevirtual 58, 3) := by decide +kernel
theorem d_La_law_429 : decode code 429 = .ok (.lcmp, 1) := by decide +kernel
theorem d_La_law_430 : decode code 430 = .ok (.ifCond .eq 456, 3) := by decide +kernel
theorem d_La_law_433 : decode code 433 = .ok (.iconst 0, 1) := by decide +kernel
theorem d_La_law_434 : decode code 434 = .ok (.ireturn, 1) := by decide +kernel
theorem d_La_law_435 : decode code 435 = .ok (.aload_n 1, 1) := by decide +kernel
theorem d_La_law_436 : decode code 436 = .ok (.invokevirtual 59, 3) := by decide +kernel
theorem d_La_law_439 : decode code 439 = .ok (.aload_n 2, 1) := by decide +kernel
theorem d_La_law_440 : decode code 440 = .ok (.invokevirtual 62, 3) := by decide +kernel
theorem d_La_law_443 : decode code 443 = .ok (.if_icmp .eq 443, 3) := by decide +kernel
theorem d_La_law_446 : decode code 446 = .ok (.iconst 0, 1) := by decide +kernel
theorem d_La_law_447 : decode code 447 = .ok (.ireturn, 1) := by decide +kernel
theorem d_La_law_448 : decode code 448 = .ok (.aload_n 1, 1) := by decide +kernel
theorem d_La_law_449 : decode code 449 = .ok (.aload_n 0, 1) := by decide +kernel
theorem d_La_law_450 : decode code 450 = .ok (.iload_n 3, 1) := by decide +kernel
theorem d_La_law_451 : decode code 451 = .ok (.iconst 1, 1) := by decide +kernel
theorem d_La_law_452 : decode code 452 = .ok (.iadd, 1) := by decide +kernel
theorem d_La_law_453 : decode code 453 = .ok (.iaload, 1) := by decide +kernel
theorem d_La_law_454 : decode code 454 = .ok (.aload_n 0, 1) := by decide +kernel
theorem d_La_law_455 : decode code 455 = .ok (.iload_n 3, 1) := by decide +kernel
theorem d_La_law_456 : decode code 456 = .ok (.iconst 2, 1) := by decide +kernel
theorem d_La_law_457 : decode code 457 = .ok (.iadd, 1) := by decide +kernel
theorem d_La_law_458 : decode code 458 = .ok (.iaload, 1) := by decide +kernel
theorem d_La_law_459 : decode code 459 = .ok (.aload_n 0, 1) := by decide +kernel
theorem d_La_law_460 : decode code 460 = .ok (.iload_n 3, 1) := by decide +kernel
theorem d_La_law_461 : decode code 461 = .ok (.iconst 3, 1) := by decide +kernel
theorem d_La_law_462 : decode code 462 = .ok (.iadd, 1) := by decide +kernel
theorem d_La_law_463 : decode code 463 = .ok (.iaload, 1) := by decide +kernel
theorem d_La_law_464 : decode code 464 = .ok (.invokevirtual 63, 3) := by decide +kernel
theorem d_La_law_467 : decode code 467 = .ok (.aload_n 2, 1) := by decide +kernel
theorem d_La_law_468 : decode code 468 = .ok (.aload_n 0, 1) := by decide +kernel
theorem d_La_law_469 : decode code 469 = .ok (.iload_n 3, 1) := by decide +kernel
theorem d_La_law_470 : decode code 470 = .ok (.iconst 1, 1) := by decide +kernel
theorem d_La_law_471 : decode code 471 = .ok (.iadd, 1) := by decide +kernel
theorem d_La_law_472 : decode code 472 = .ok (.iaload, 1) := by decide +kernel
theorem d_La_law_473 : decode code 473 = .ok (.aload_n 0, 1) := by decide +kernel
theorem d_La_law_474 : decode code 474 = .ok (.iload_n 3, 1) := by decide +kernel
theorem d_La_law_475 : decode code 475 = .ok (.iconst 2, 1) := by decide +kernel
theorem d_La_law_476 : decode code 476 = .ok (.iadd, 1) := by decide +kernel
theorem d_La_law_477 : decode code 477 = .ok (.iaload, 1) := by decide +kernel
theorem d_La_law_478 : decode code 478 = .ok (.aload_n 0, 1) := by decide +kernel
theorem d_La_law_479 : decode code 479 = .ok (.iload_n 3, 1) := by decide +kernel
theorem d_La_law_480 : decode code 480 = .ok (.iconst 3, 1) := by decide +kernel
theorem d_La_law_481 : decode code 481 = .ok (.iadd, 1) := by decide +kernel
theorem d_La_law_482 : decode code 482 = .ok (.iaload, 1) := by decide +kernel
theorem d_La_law_483 : decode code 483 = .ok (.invokevirtual 67, 3) := by decide +kernel
theorem d_La_law_486 : decode code 486 = .ok (.lcmp, 1) := by decide +kernel
theorem d_La_law_487 : decode code 487 = .ok (.ifCond .eq 399, 3) := by decide +kernel
theorem d_La_law_490 : decode code 490 = .ok (.iconst 0, 1) := by decide +kernel
theorem d_La_law_491 : decode code 491 = .ok (.ireturn, 1) := by decide +kernel
theorem d_La_law_492 : decode code 492 = .ok (.aload_n 1, 1) := by decide +kernel
theorem d_La_law_493 : decode code 493 = .ok (.aload_n 0, 1) := by decide +kernel
theorem d_La_law_494 : decode code 494 = .ok (.iload_n 3, 1) := by decide +kernel
theorem d_La_law_495 : decode code 495 = .ok (.iconst 1, 1) := by decide +kernel
theorem d_La_law_496 : decode code 496 = .ok (.iadd, 1) := by decide +kernel
theorem d_La_law_497 : decode code 497 = .ok (.iaload, 1) := by decide +kernel
theorem d_La_law_498 : decode code 498 = .ok (.aload_n 0, 1) := by decide +kernel
theorem d_La_law_499 : decode code 499 = .ok (.iload_n 3, 1) := by decide +kernel
theorem d_La_law_500 : decode code 500 = .ok (.iconst 2, 1) := by decide +kernel
theorem d_La_law_501 : decode code 501 = .ok (.iadd, 1) := by decide +kernel
theorem d_La_law_502 : decode code 502 = .ok (.iaload, 1) := by decide +kernel
theorem d_La_law_503 : decode code 503 = .ok (.aload_n 0, 1) := by decide +kernel
theorem d_La_law_504 : decode code 504 = .ok (.iload_n 3, 1) := by decide +kernel
theorem d_La_law_505 : decode code 505 = .ok (.iconst 3, 1) := by decide +kernel
theorem d_La_law_506 : decode code 506 = .ok (.iadd, 1) := by decide +kernel
theorem d_La_law_507 : decode code 507 = .ok (.iaload, 1) := by decide +kernel
theorem d_La_law_508 : decode code 508 = .ok (.invokevirtual 68, 3) := by decide +kernel
theorem d_La_law_511 : decode code 511 = .ok (.aload_n 2, 1) := by decide +kernel
theorem d_La_law_512 : decode code 512 = .ok (.aload_n 0, 1) := by decide +kernel
theorem d_La_law_513 : decode code 513 = .ok (.iload_n 3, 1) := by decide +kernel
theorem d_La_law_514 : decode code 514 = .ok (.iconst 1, 1) := by decide +kernel
theorem d_La_law_515 : decode code 515 = .ok (.iadd, 1) := by decide +kernel
theorem d_La_law_516 : decode code 516 = .ok (.iaload, 1) := by decide +kernel
theorem d_La_law_517 : decode code 517 = .ok (.aload_n 0, 1) := by decide +kernel
theorem d_La_law_518 : decode code 518 = .ok (.iload_n 3, 1) := by decide +kernel
theorem d_La_law_519 : decode code 519 = .ok (.iconst 2, 1) := by decide +kernel
theorem d_La_law_520 : decode code 520 = .ok (.iadd, 1) := by decide +kernel
theorem d_La_law_521 : decode code 521 = .ok (.iaload, 1) := by decide +kernel
theorem d_La_law_522 : decode code 522 = .ok (.aload_n 0, 1) := by decide +kernel
theorem d_La_law_523 : decode code 523 = .ok (.iload_n 3, 1) := by decide +kernel
theorem d_La_law_524 : decode code 524 = .ok (.iconst 3, 1) := by decide +kernel
theorem d_La_law_525 : decode code 525 = .ok (.iadd, 1) := by decide +kernel
theorem d_La_law_526 : decode code 526 = .ok (.iaload, 1) := by decide +kernel
theorem d_La_law_527 : decode code 527 = .ok (.invokevirtual 71, 3) := by decide +kernel
theorem d_La_law_530 : decode code 530 = .ok (.lcmp, 1) := by decide +kernel
theorem d_La_law_531 : decode code 531 = .ok (.ifCond .eq 355, 3) := by decide +kernel
theorem d_La_law_534 : decode code 534 = .ok (.iconst 0, 1) := by decide +kernel
theorem d_La_law_535 : decode code 535 = .ok (.ireturn, 1) := by decide +kernel
theorem d_La_law_536 : decode code 536 = .ok (.aload_n 1, 1) := by decide +kernel
theorem d_La_law_537 : decode code 537 = .ok (.aload_n 0, 1) := by decide +kernel
theorem d_La_law_538 : decode code 538 = .ok (.iload_n 3, 1) := by decide +kernel
theorem d_La_law_539 : decode code 539 = .ok (.iconst 1, 1) := by decide +kernel
theorem d_La_law_540 : decode code 540 = .ok (.iadd, 1) := by decide +kernel
theorem d_La_law_541 : decode code 541 = .ok (.iaload, 1) := by decide +kernel
theorem d_La_law_542 : decode code 542 = .ok (.aload_n 0, 1) := by decide +kernel
theorem d_La_law_543 : decode code 543 = .ok (.iload_n 3, 1) := by decide +kernel
theorem d_La_law_544 : decode code 544 = .ok (.iconst 2, 1) := by decide +kernel
theorem d_La_law_545 : decode code 545 = .ok (.iadd, 1) := by decide +kernel
theorem d_La_law_546 : decode code 546 = .ok (.iaload, 1) := by decide +kernel
theorem d_La_law_547 : decode code 547 = .ok (.aload_n 0, 1) := by decide +kernel
theorem d_La_law_548 : decode code 548 = .ok (.iload_n 3, 1) := by decide +kernel
theorem d_La_law_549 : decode code 549 = .ok (.iconst 3, 1) := by decide +kernel
theorem d_La_law_550 : decode code 550 = .ok (.iadd, 1) := by decide +kernel
theorem d_La_law_551 : decode code 551 = .ok (.iaload, 1) := by decide +kernel
theorem d_La_law_552 : decode code 552 = .ok (.aload_n 0, 1) := by decide +kernel
theorem d_La_law_553 : decode code 553 = .ok (.iload_n 3, 1) := by decide +kernel
theorem d_La_law_554 : decode code 554 = .ok (.iconst 4, 1) := by decide +kernel
theorem d_La_law_555 : decode code 555 = .ok (.iadd, 1) := by decide +kernel
theorem d_La_law_556 : decode code 556 = .ok (.iaload, 1) := by decide +kernel
theorem d_La_law_557 : decode code 557 = .ok (.invokevirtual 72, 3) := by decide +kernel
theorem d_La_law_560 : decode code 560 = .ok (.aload_n 2, 1) := by decide +kernel
theorem d_La_law_561 : decode code 561 = .ok (.aload_n 0, 1) := by decide +kernel
theorem d_La_law_562 : decode code 562 = .ok (.iload_n 3, 1) := by decide +kernel
theorem d_La_law_563 : decode code 563 = .ok (.iconst 1, 1) := by decide +kernel
theorem d_La_law_564 : decode code 564 = .ok (.iadd, 1) := by decide +kernel
theorem d_La_law_565 : decode code 565 = .ok (.iaload, 1) := by decide +kernel
theorem d_La_law_566 : decode code 566 = .ok (.aload_n 0, 1) := by decide +kernel
theorem d_La_law_567 : decode code 567 = .ok (.iload_n 3, 1) := by decide +kernel
theorem d_La_law_568 : decode code 568 = .ok (.iconst 2, 1) := by decide +kernel
theorem d_La_law_569 : decode code 569 = .ok (.iadd, 1) := by decide +kernel
theorem d_La_law_570 : decode code 570 = .ok (.iaload, 1) := by decide +kernel
theorem d_La_law_571 : decode code 571 = .ok (.aload_n 0, 1) := by decide +kernel
theorem d_La_law_572 : decode code 572 = .ok (.iload_n 3, 1) := by decide +kernel
theorem d_La_law_573 : decode code 573 = .ok (.iconst 3, 1) := by decide +kernel
theorem d_La_law_574 : decode code 574 = .ok (.iadd, 1) := by decide +kernel
theorem d_La_law_575 : decode code 575 = .ok (.iaload, 1) := by decide +kernel
theorem d_La_law_576 : decode code 576 = .ok (.aload_n 0, 1) := by decide +kernel
theorem d_La_law_577 : decode code 577 = .ok (.iload_n 3, 1) := by decide +kernel
theorem d_La_law_578 : decode code 578 = .ok (.iconst 4, 1) := by decide +kernel
theorem d_La_law_579 : decode code 579 = .ok (.iadd, 1) := by decide +kernel
theorem d_La_law_580 : decode code 580 = .ok (.iaload, 1) := by decide +kernel
theorem d_La_law_581 : decode code 581 = .ok (.invokevirtual 76, 3) := by decide +kernel
theorem d_La_law_584 : decode code 584 = .ok (.lcmp, 1) := by decide +kernel
theorem d_La_law_585 : decode code 585 = .ok (.ifCond .eq 301, 3) := by decide +kernel
theorem d_La_law_588 : decode code 588 = .ok (.iconst 0, 1) := by decide +kernel
theorem d_La_law_589 : decode code 589 = .ok (.ireturn, 1) := by decide +kernel
theorem d_La_law_590 : decode code 590 = .ok (.aload_n 1, 1) := by decide +kernel
theorem d_La_law_591 : decode code 591 = .ok (.aload_n 0, 1) := by decide +kernel
theorem d_La_law_592 : decode code 592 = .ok (.iload_n 3, 1) := by decide +kernel
theorem d_La_law_593 : decode code 593 = .ok (.iconst 1, 1) := by decide +kernel
theorem d_La_law_594 : decode code 594 = .ok (.iadd, 1) := by decide +kernel
theorem d_La_law_595 : decode code 595 = .ok (.iaload, 1) := by decide +kernel
theorem d_La_law_596 : decode code 596 = .ok (.invokevirtual 77, 3) := by decide +kernel
theorem d_La_law_599 : decode code 599 = .ok (.aload_n 2, 1) := by decide +kernel
theorem d_La_law_600 : decode code 600 = .ok (.aload_n 0, 1) := by decide +kernel
theorem d_La_law_601 : decode code 601 = .ok (.iload_n 3, 1) := by decide +kernel
theorem d_La_law_602 : decode code 602 = .ok (.iconst 1, 1) := by decide +kernel
theorem d_La_law_603 : decode code 603 = .ok (.iadd, 1) := by decide +kernel
theorem d_La_law_604 : decode code 604 = .ok (.iaload, 1) := by decide +kernel
theorem d_La_law_605 : decode code 605 = .ok (.invokevirtual 80, 3) := by decide +kernel
theorem d_La_law_608 : decode code 608 = .ok (.if_icmp .eq 278, 3) := by decide +kernel
theorem d_La_law_611 : decode code 611 = .ok (.iconst 0, 1) := by decide +kernel
theorem d_La_law_612 : decode code 612 = .ok (.ireturn, 1) := by decide +kernel
theorem d_La_law_613 : decode code 613 = .ok (.aload_n 1, 1) := by decide +kernel
theorem d_La_law_614 : decode code 614 = .ok (.aload_n 0, 1) := by decide +kernel
theorem d_La_law_615 : decode code 615 = .ok (.iload_n 3, 1) := by decide +kernel
theorem d_La_law_616 : decode code 616 = .ok (.iconst 1, 1) := by decide +kernel
theorem d_La_law_617 : decode code 617 = .ok (.iadd, 1) := by decide +kernel
theorem d_La_law_618 : decode code 618 = .ok (.iaload, 1) := by decide +kernel
theorem d_La_law_619 : decode code 619 = .ok (.invokevirtual 81, 3) := by decide +kernel
theorem d_La_law_622 : decode code 622 = .ok (.aload_n 2, 1) := by decide +kernel
theorem d_La_law_623 : decode code 623 = .ok (.aload_n 0, 1) := by decide +kernel
theorem d_La_law_624 : decode code 624 = .ok (.iload_n 3, 1) := by decide +kernel
theorem d_La_law_625 : decode code 625 = .ok (.iconst 1, 1) := by decide +kernel
theorem d_La_law_626 : decode code 626 = .ok (.iadd, 1) := by decide +kernel
theorem d_La_law_627 : decode code 627 = .ok (.iaload, 1) := by decide +kernel
theorem d_La_law_628 : decode code 628 = .ok (.invokevirtual 85, 3) := by decide +kernel
theorem d_La_law_631 : decode code 631 = .ok (.lcmp, 1) := by decide +kernel
theorem d_La_law_632 : decode code 632 = .ok (.ifCond .eq 254, 3) := by decide +kernel
theorem d_La_law_635 : decode code 635 = .ok (.iconst 0, 1) := by decide +kernel
theorem d_La_law_636 : decode code 636 = .ok (.ireturn, 1) := by decide +kernel
theorem d_La_law_637 : decode code 637 = .ok (.aload_n 1, 1) := by decide +kernel
theorem d_La_law_638 : decode code 638 = .ok (.aload_n 0, 1) := by decide +kernel
theorem d_La_law_639 : decode code 639 = .ok (.iload_n 3, 1) := by decide +kernel
theorem d_La_law_640 : decode code 640 = .ok (.iconst 1, 1) := by decide +kernel
theorem d_La_law_641 : decode code 641 = .ok (.iadd, 1) := by decide +kernel
theorem d_La_law_642 : decode code 642 = .ok (.iaload, 1) := by decide +kernel
theorem d_La_law_643 : decode code 643 = .ok (.aload_n 0, 1) := by decide +kernel
theorem d_La_law_644 : decode code 644 = .ok (.iload_n 3, 1) := by decide +kernel
theorem d_La_law_645 : decode code 645 = .ok (.iconst 2, 1) := by decide +kernel
theorem d_La_law_646 : decode code 646 = .ok (.iadd, 1) := by decide +kernel
theorem d_La_law_647 : decode code 647 = .ok (.iaload, 1) := by decide +kernel
theorem d_La_law_648 : decode code 648 = .ok (.invokevirtual 86, 3) := by decide +kernel
theorem d_La_law_651 : decode code 651 = .ok (.aload_n 2, 1) := by decide +kernel
theorem d_La_law_652 : decode code 652 = .ok (.aload_n 0, 1) := by decide +kernel
theorem d_La_law_653 : decode code 653 = .ok (.iload_n 3, 1) := by decide +kernel
theorem d_La_law_654 : decode code 654 = .ok (.iconst 1, 1) := by decide +kernel
theorem d_La_law_655 : decode code 655 = .ok (.iadd, 1) := by decide +kernel
theorem d_La_law_656 : decode code 656 = .ok (.iaload, 1) := by decide +kernel
theorem d_La_law_657 : decode code 657 = .ok (.aload_n 0, 1) := by decide +kernel
theorem d_La_law_658 : decode code 658 = .ok (.iload_n 3, 1) := by decide +kernel
theorem d_La_law_659 : decode code 659 = .ok (.iconst 2, 1) := by decide +kernel
theorem d_La_law_660 : decode code 660 = .ok (.iadd, 1) := by decide +kernel
theorem d_La_law_661 : decode code 661 = .ok (.iaload, 1) := by decide +kernel
theorem d_La_law_662 : decode code 662 = .ok (.invokevirtual 89, 3) := by decide +kernel
theorem d_La_law_665 : decode code 665 = .ok (.if_icmp .eq 221, 3) := by decide +kernel
theorem d_La_law_668 : decode code 668 = .ok (.iconst 0, 1) := by decide +kernel
theorem d_La_law_669 : decode code 669 = .ok (.ireturn, 1) := by decide +kernel
theorem d_La_law_670 : decode code 670 = .ok (.aload_n 1, 1) := by decide +kernel
theorem d_La_law_671 : decode code 671 = .ok (.aload_n 0, 1) := by decide +kernel
theorem d_La_law_672 : decode code 672 = .ok (.iload_n 3, 1) := by decide +kernel
theorem d_La_law_673 : decode code 673 = .ok (.iconst 1, 1) := by decide +kernel
theorem d_La_law_674 : decode code 674 = .ok (.iadd, 1) := by decide +kernel
theorem d_La_law_675 : decode code 675 = .ok (.iaload, 1) := by decide +kernel
theorem d_La_law_676 : decode code 676 = .ok (.invokevirtual 90, 3) := by decide +kernel
theorem d_La_law_679 : decode code 679 = .ok (.aload_n 2, 1) := by decide +kernel
theorem d_La_law_680 : decode code 680 = .ok (.aload_n 0, 1) := by decide +kernel
theorem d_La_law_681 : decode code 681 = .ok (.iload_n 3, 1) := by decide +kernel
theorem d_La_law_682 : decode code 682 = .ok (.iconst 1, 1) := by decide +kernel
theorem d_La_law_683 : decode code 683 = .ok (.iadd, 1) := by decide +kernel
theorem d_La_law_684 : decode code 684 = .ok (.iaload, 1) := by decide +kernel
theorem d_La_law_685 : decode code 685 = .ok (.invokevirtual 93, 3) := by decide +kernel
theorem d_La_law_688 : decode code 688 = .ok (.lcmp, 1) := by decide +kernel
theorem d_La_law_689 : decode code 689 = .ok (.ifCond .eq 197, 3) := by decide +kernel
theorem d_La_law_692 : decode code 692 = .ok (.iconst 0, 1) := by decide +kernel
theorem d_La_law_693 : decode code 693 = .ok (.ireturn, 1) := by decide +kernel
theorem d_La_law_694 : decode code 694 = .ok (.aload_n 1, 1) := by decide +kernel
theorem d_La_law_695 : decode code 695 = .ok (.aload_n 0, 1) := by decide +kernel
theorem d_La_law_696 : decode code 696 = .ok (.iload_n 3, 1) := by decide +kernel
theorem d_La_law_697 : decode code 697 = .ok (.iconst 1, 1) := by decide +kernel
theorem d_La_law_698 : decode code 698 = .ok (.iadd, 1) := by decide +kernel
theorem d_La_law_699 : decode code 699 = .ok (.iaload, 1) := by decide +kernel
theorem d_La_law_700 : decode code 700 = .ok (.invokevirtual 94, 3) := by decide +kernel
theorem d_La_law_703 : decode code 703 = .ok (.aload_n 2, 1) := by decide +kernel
theorem d_La_law_704 : decode code 704 = .ok (.aload_n 0, 1) := by decide +kernel
theorem d_La_law_705 : decode code 705 = .ok (.iload_n 3, 1) := by decide +kernel
theorem d_La_law_706 : decode code 706 = .ok (.iconst 1, 1) := by decide +kernel
theorem d_La_law_707 : decode code 707 = .ok (.iadd, 1) := by decide +kernel
theorem d_La_law_708 : decode code 708 = .ok (.iaload, 1) := by decide +kernel
theorem d_La_law_709 : decode code 709 = .ok (.invokevirtual 97, 3) := by decide +kernel
theorem d_La_law_712 : decode code 712 = .ok (.if_icmp .eq 174, 3) := by decide +kernel
theorem d_La_law_715 : decode code 715 = .ok (.iconst 0, 1) := by decide +kernel
theorem d_La_law_716 : decode code 716 = .ok (.ireturn, 1) := by decide +kernel
theorem d_La_law_717 : decode code 717 = .ok (.aload_n 1, 1) := by decide +kernel
theorem d_La_law_718 : decode code 718 = .ok (.aload_n 0, 1) := by decide +kernel
theorem d_La_law_719 : decode code 719 = .ok (.iload_n 3, 1) := by decide +kernel
theorem d_La_law_720 : decode code 720 = .ok (.iconst 1, 1) := by decide +kernel
theorem d_La_law_721 : decode code 721 = .ok (.iadd, 1) := by decide +kernel
theorem d_La_law_722 : decode code 722 = .ok (.iaload, 1) := by decide +kernel
theorem d_La_law_723 : decode code 723 = .ok (.invokevirtual 98, 3) := by decide +kernel
theorem d_La_law_726 : decode code 726 = .ok (.aload_n 2, 1) := by decide +kernel
theorem d_La_law_727 : decode code 727 = .ok (.aload_n 0, 1) := by decide +kernel
theorem d_La_law_728 : decode code 728 = .ok (.iload_n 3, 1) := by decide +kernel
theorem d_La_law_729 : decode code 729 = .ok (.iconst 1, 1) := by decide +kernel
theorem d_La_law_730 : decode code 730 = .ok (.iadd, 1) := by decide +kernel
theorem d_La_law_731 : decode code 731 = .ok (.iaload, 1) := by decide +kernel
theorem d_La_law_732 : decode code 732 = .ok (.invokevirtual 101, 3) := by decide +kernel
theorem d_La_law_735 : decode code 735 = .ok (.lcmp, 1) := by decide +kernel
theorem d_La_law_736 : decode code 736 = .ok (.ifCond .eq 150, 3) := by decide +kernel
theorem d_La_law_739 : decode code 739 = .ok (.iconst 0, 1) := by decide +kernel
theorem d_La_law_740 : decode code 740 = .ok (.ireturn, 1) := by decide +kernel
theorem d_La_law_741 : decode code 741 = .ok (.aload_n 1, 1) := by decide +kernel
theorem d_La_law_742 : decode code 742 = .ok (.aload_n 0, 1) := by decide +kernel
theorem d_La_law_743 : decode code 743 = .ok (.iload_n 3, 1) := by decide +kernel
theorem d_La_law_744 : decode code 744 = .ok (.iconst 1, 1) := by decide +kernel
theorem d_La_law_745 : decode code 745 = .ok (.iadd, 1) := by decide +kernel
theorem d_La_law_746 : decode code 746 = .ok (.iaload, 1) := by decide +kernel
theorem d_La_law_747 : decode code 747 = .ok (.invokevirtual 102, 3) := by decide +kernel
theorem d_La_law_750 : decode code 750 = .ok (.aload_n 2, 1) := by decide +kernel
theorem d_La_law_751 : decode code 751 = .ok (.aload_n 0, 1) := by decide +kernel
theorem d_La_law_752 : decode code 752 = .ok (.iload_n 3, 1) := by decide +kernel
theorem d_La_law_753 : decode code 753 = .ok (.iconst 1, 1) := by decide +kernel
theorem d_La_law_754 : decode code 754 = .ok (.iadd, 1) := by decide +kernel
theorem d_La_law_755 : decode code 755 = .ok (.iaload, 1) := by decide +kernel
theorem d_La_law_756 : decode code 756 = .ok (.invokevirtual 105, 3) := by decide +kernel
theorem d_La_law_759 : decode code 759 = .ok (.lcmp, 1) := by decide +kernel
theorem d_La_law_760 : decode code 760 = .ok (.ifCond .eq 126, 3) := by decide +kernel
theorem d_La_law_763 : decode code 763 = .ok (.iconst 0, 1) := by decide +kernel
theorem d_La_law_764 : decode code 764 = .ok (.ireturn, 1) := by decide +kernel
theorem d_La_law_765 : decode code 765 = .ok (.aload_n 1, 1) := by decide +kernel
theorem d_La_law_766 : decode code 766 = .ok (.aload_n 0, 1) := by decide +kernel
theorem d_La_law_767 : decode code 767 = .ok (.iload_n 3, 1) := by decide +kernel
theorem d_La_law_768 : decode code 768 = .ok (.iconst 1, 1) := by decide +kernel
theorem d_La_law_769 : decode code 769 = .ok (.iadd, 1) := by decide +kernel
theorem d_La_law_770 : decode code 770 = .ok (.iaload, 1) := by decide +kernel
theorem d_La_law_771 : decode code 771 = .ok (.invokevirtual 106, 3) := by decide +kernel
theorem d_La_law_774 : decode code 774 = .ok (.aload_n 2, 1) := by decide +kernel
theorem d_La_law_775 : decode code 775 = .ok (.aload_n 0, 1) := by decide +kernel
theorem d_La_law_776 : decode code 776 = .ok (.iload_n 3, 1) := by decide +kernel
theorem d_La_law_777 : decode code 777 = .ok (.iconst 1, 1) := by decide +kernel
theorem d_La_law_778 : decode code 778 = .ok (.iadd, 1) := by decide +kernel
theorem d_La_law_779 : decode code 779 = .ok (.iaload, 1) := by decide +kernel
theorem d_La_law_780 : decode code 780 = .ok (.invokevirtual 109, 3) := by decide +kernel
theorem d_La_law_783 : decode code 783 = .ok (.lcmp, 1) := by decide +kernel
theorem d_La_law_784 : decode code 784 = .ok (.ifCond .eq 102, 3) := by decide +kernel
theorem d_La_law_787 : decode code 787 = .ok (.iconst 0, 1) := by decide +kernel
theorem d_La_law_788 : decode code 788 = .ok (.ireturn, 1) := by decide +kernel
theorem d_La_law_789 : decode code 789 = .ok (.aload_n 1, 1) := by decide +kernel
theorem d_La_law_790 : decode code 790 = .ok (.aload_n 0, 1) := by decide +kernel
theorem d_La_law_791 : decode code 791 = .ok (.iload_n 3, 1) := by decide +kernel
theorem d_La_law_792 : decode code 792 = .ok (.iconst 1, 1) := by decide +kernel
theorem d_La_law_793 : decode code 793 = .ok (.iadd, 1) := by decide +kernel
theorem d_La_law_794 : decode code 794 = .ok (.iaload, 1) := by decide +kernel
theorem d_La_law_795 : decode code 795 = .ok (.aload_n 0, 1) := by decide +kernel
theorem d_La_law_796 : decode code 796 = .ok (.iload_n 3, 1) := by decide +kernel
theorem d_La_law_797 : decode code 797 = .ok (.iconst 2, 1) := by decide +kernel
theorem d_La_law_798 : decode code 798 = .ok (.iadd, 1) := by decide +kernel
theorem d_La_law_799 : decode code 799 = .ok (.iaload, 1) := by decide +kernel
theorem d_La_law_800 : decode code 800 = .ok (.invokevirtual 110, 3) := by decide +kernel
theorem d_La_law_803 : decode code 803 = .ok (.aload_n 2, 1) := by decide +kernel
theorem d_La_law_804 : decode code 804 = .ok (.aload_n 0, 1) := by decide +kernel
theorem d_La_law_805 : decode code 805 = .ok (.iload_n 3, 1) := by decide +kernel
theorem d_La_law_806 : decode code 806 = .ok (.iconst 1, 1) := by decide +kernel
theorem d_La_law_807 : decode code 807 = .ok (.iadd, 1) := by decide +kernel
theorem d_La_law_808 : decode code 808 = .ok (.iaload, 1) := by decide +kernel
theorem d_La_law_809 : decode code 809 = .ok (.aload_n 0, 1) := by decide +kernel
theorem d_La_law_810 : decode code 810 = .ok (.iload_n 3, 1) := by decide +kernel
theorem d_La_law_811 : decode code 811 = .ok (.iconst 2, 1) := by decide +kernel
theorem d_La_law_812 : decode code 812 = .ok (.iadd, 1) := by decide +kernel
theorem d_La_law_813 : decode code 813 = .ok (.iaload, 1) := by decide +kernel
theorem d_La_law_814 : decode code 814 = .ok (.invokevirtual 113, 3) := by decide +kernel
theorem d_La_law_817 : decode code 817 = .ok (.if_icmp .eq 69, 3) := by decide +kernel
theorem d_La_law_820 : decode code 820 = .ok (.iconst 0, 1) := by decide +kernel
theorem d_La_law_821 : decode code 821 = .ok (.ireturn, 1) := by decide +kernel
theorem d_La_law_822 : decode code 822 = .ok (.aload_n 1, 1) := by decide +kernel
theorem d_La_law_823 : decode code 823 = .ok (.aload_n 0, 1) := by decide +kernel
theorem d_La_law_824 : decode code 824 = .ok (.iload_n 3, 1) := by decide +kernel
theorem d_La_law_825 : decode code 825 = .ok (.iconst 1, 1) := by decide +kernel
theorem d_La_law_826 : decode code 826 = .ok (.iadd, 1) := by decide +kernel
theorem d_La_law_827 : decode code 827 = .ok (.iaload, 1) := by decide +kernel
theorem d_La_law_828 : decode code 828 = .ok (.aload_n 0, 1) := by decide +kernel
theorem d_La_law_829 : decode code 829 = .ok (.iload_n 3, 1) := by decide +kernel
theorem d_La_law_830 : decode code 830 = .ok (.iconst 2, 1) := by decide +kernel
theorem d_La_law_831 : decode code 831 = .ok (.iadd, 1) := by decide +kernel
theorem d_La_law_832 : decode code 832 = .ok (.iaload, 1) := by decide +kernel
theorem d_La_law_833 : decode code 833 = .ok (.aload_n 0, 1) := by decide +kernel
theorem d_La_law_834 : decode code 834 = .ok (.iload_n 3, 1) := by decide +kernel
theorem d_La_law_835 : decode code 835 = .ok (.iconst 3, 1) := by decide +kernel
theorem d_La_law_836 : decode code 836 = .ok (.iadd, 1) := by decide +kernel
theorem d_La_law_837 : decode code 837 = .ok (.iaload, 1) := by decide +kernel
theorem d_La_law_838 : decode code 838 = .ok (.aload_n 0, 1) := by decide +kernel
theorem d_La_law_839 : decode code 839 = .ok (.iload_n 3, 1) := by decide +kernel
theorem d_La_law_840 : decode code 840 = .ok (.iconst 4, 1) := by decide +kernel
theorem d_La_law_841 : decode code 841 = .ok (.iadd, 1) := by decide +kernel
theorem d_La_law_842 : decode code 842 = .ok (.iaload, 1) := by decide +kernel
theorem d_La_law_843 : decode code 843 = .ok (.aload_n 0, 1) := by decide +kernel
theorem d_La_law_844 : decode code 844 = .ok (.iload_n 3, 1) := by decide +kernel
theorem d_La_law_845 : decode code 845 = .ok (.iconst 5, 1) := by decide +kernel
theorem d_La_law_846 : decode code 846 = .ok (.iadd, 1) := by decide +kernel
theorem d_La_law_847 : decode code 847 = .ok (.iaload, 1) := by decide +kernel
theorem d_La_law_848 : decode code 848 = .ok (.invokevirtual 114, 3) := by decide +kernel
theorem d_La_law_851 : decode code 851 = .ok (.aload_n 2, 1) := by decide +kernel
theorem d_La_law_852 : decode code 852 = .ok (.aload_n 0, 1) := by decide +kernel
theorem d_La_law_853 : decode code 853 = .ok (.iload_n 3, 1) := by decide +kernel
theorem d_La_law_854 : decode code 854 = .ok (.iconst 1, 1) := by decide +kernel
theorem d_La_law_855 : decode code 855 = .ok (.iadd, 1) := by decide +kernel
theorem d_La_law_856 : decode code 856 = .ok (.iaload, 1) := by decide +kernel
theorem d_La_law_857 : decode code 857 = .ok (.aload_n 0, 1) := by decide +kernel
theorem d_La_law_858 : decode code 858 = .ok (.iload_n 3, 1) := by decide +kernel
theorem d_La_law_859 : decode code 859 = .ok (.iconst 2, 1) := by decide +kernel
theorem d_La_law_860 : decode code 860 = .ok (.iadd, 1) := by decide +kernel
theorem d_La_law_861 : decode code 861 = .ok (.iaload, 1) := by decide +kernel
theorem d_La_law_862 : decode code 862 = .ok (.aload_n 0, 1) := by decide +kernel
theorem d_La_law_863 : decode code 863 = .ok (.iload_n 3, 1) := by decide +kernel
theorem d_La_law_864 : decode code 864 = .ok (.iconst 3, 1) := by decide +kernel
theorem d_La_law_865 : decode code 865 = .ok (.iadd, 1) := by decide +kernel
theorem d_La_law_866 : decode code 866 = .ok (.iaload, 1) := by decide +kernel
theorem d_La_law_867 : decode code 867 = .ok (.aload_n 0, 1) := by decide +kernel
theorem d_La_law_868 : decode code 868 = .ok (.iload_n 3, 1) := by decide +kernel
theorem d_La_law_869 : decode code 869 = .ok (.iconst 4, 1) := by decide +kernel
theorem d_La_law_870 : decode code 870 = .ok (.iadd, 1) := by decide +kernel
theorem d_La_law_871 : decode code 871 = .ok (.iaload, 1) := by decide +kernel
theorem d_La_law_872 : decode code 872 = .ok (.aload_n 0, 1) := by decide +kernel
theorem d_La_law_873 : decode code 873 = .ok (.iload_n 3, 1) := by decide +kernel
theorem d_La_law_874 : decode code 874 = .ok (.iconst 5, 1) := by decide +kernel
theorem d_La_law_875 : decode code 875 = .ok (.iadd, 1) := by decide +kernel
theorem d_La_law_876 : decode code 876 = .ok (.iaload, 1) := by decide +kernel
theorem d_La_law_877 : decode code 877 = .ok (.invokevirtual 118, 3) := by decide +kernel
theorem d_La_law_880 : decode code 880 = .ok (.lcmp, 1) := by decide +kernel
theorem d_La_law_881 : decode code 881 = .ok (.ifCond .eq 5, 3) := by decide +kernel
theorem d_La_law_884 : decode code 884 = .ok (.iconst 0, 1) := by decide +kernel
theorem d_La_law_885 : decode code 885 = .ok (.ireturn, 1) := by decide +kernel
theorem d_La_law_886 : decode code 886 = .ok (.iinc 3 6, 3) := by decide +kernel
theorem d_La_law_889 : decode code 889 = .ok (.goto (-871), 3) := by decide +kernel
theorem d_La_law_892 : decode code 892 = .ok (.iconst 1, 1) := by decide +kernel
theorem d_La_law_893 : decode code 893 = .ok (.ireturn, 1) := by decide +kernel
end
section
/-! the heap: what the constructors make, in their order; 203 cells of the class, 20 of the reference; numbers are held as Nat where they can (nI, lN) -/
abbrev hR : Type := (Nat → Int32) × (Nat → Int32) × Nat
abbrev hG : Type := Nat → Nat → Nat
abbrev hS : Type := hG × hG × Nat
abbrev hW : Type := hG × hG × hG × hG × hG × Nat
abbrev hL : Type := (Nat → Nat) × (Nat → Nat) × Nat
abbrev hB : Type := (Nat → hL) × Nat
abbrev hD : Type := Nat × Nat × Nat × Nat × Nat × Nat
abbrev hK : Type := hG × hG × Nat
abbrev hT : Type := hG × hG × hG × hG × (Nat → Nat) × (Nat → Nat) × Nat × Nat
abbrev hA : Type := Nat × (Nat → Nat) × (Nat → Nat)
abbrev hP : Type := Nat × (Nat → Int32) × (Nat → Int32)
abbrev hC : Type := Nat × Nat × Nat × (Nat → Nat) × (Nat → Nat) × (Nat → Nat) × Nat × (Nat → Nat) × (Nat → Int32)
abbrev hF : Type := (Nat → Nat) × (Nat → Nat) × (Nat → Nat)
abbrev hE : Type := (Nat → Int32) × (Nat → Int32) × (Nat → Int32)
/-- the class: row, states, sums, counts, best lists, drawing, kinds, tree tables -/
def hc (r : hR) (s : hS) (w c : hW) (b : hB) (d : hD) (k : hK) (t : hT) : List ab_C := [
  .inr (0, [.ref 2, .ref 5, .ref 16, .ref 54, .ref 92, .ref 169, .ref 170, .ref 181]),
  .inr (1, [.ref 3, .ref 4, .int (nI r.2.2)]),
  .inl (0, 6, .inl r.1),
  .inl (0, 6, .inl r.2.1),
  .inr (2, [.ref 6, .ref 11, .int (nI s.2.2)]),
  .inl (2, 4, .inr (.inr (.inr (.inr (fun j => if j < 4 then some (7 + j) else none))))),
  .inl (0, 9, .inl (fun j => nI (s.1 0 j))),
  .inl (0, 9, .inl (fun j => nI (s.1 1 j))),
  .inl (0, 9, .inl (fun j => nI (s.1 2 j))),
  .inl (0, 9, .inl (fun j => nI (s.1 3 j))),
  .inl (2, 4, .inr (.inr (.inr (.inr (fun j => if j < 4 then some (12 + j) else none))))),
  .inl (0, 4, .inl (fun j => nI (s.2.1 0 j))),
  .inl (0, 4, .inl (fun j => nI (s.2.1 1 j))),
  .inl (0, 4, .inl (fun j => nI (s.2.1 2 j))),
  .inl (0, 4, .inl (fun j => nI (s.2.1 3 j))),
  .inr (3, [.ref 2, .ref 5, .int (nI 2147483647), .ref 17, .ref 24, .ref 31, .ref 39, .ref 47, .int (nI w.2.2.2.2.2)]),
  .inl (3, 6, .inr (.inr (.inr (.inr (fun j => if j < 6 then some (18 + j) else none))))),
  .inl (1, 4, .inr (.inl (fun j => lN (w.1 0 j)))),
  .inl (1, 4, .inr (.inl (fun j => lN (w.1 1 j)))),
  .inl (1, 4, .inr (.inl (fun j => lN (w.1 2 j)))),
  .inl (1, 4, .inr (.inl (fun j => lN (w.1 3 j)))),
  .inl (1, 4, .inr (.inl (fun j => lN (w.1 4 j)))),
  .inl (1, 4, .inr (.inl (fun j => lN (w.1 5 j)))),
  .inl (3, 6, .inr (.inr (.inr (.inr (fun j => if j < 6 then some (25 + j) else none))))),
  .inl (1, 4, .inr (.inl (fun j => lN (w.2.1 0 j)))),
  .inl (1, 4, .inr (.inl (fun j => lN (w.2.1 1 j)))),
  .inl (1, 4, .inr (.inl (fun j => lN (w.2.1 2 j)))),
  .inl (1, 4, .inr (.inl (fun j => lN (w.2.1 3 j)))),
  .inl (1, 4, .inr (.inl (fun j => lN (w.2.1 4 j)))),
  .inl (1, 4, .inr (.inl (fun j => lN (w.2.1 5 j)))),
  .inl (3, 7, .inr (.inr (.inr (.inr (fun j => if j < 7 then some (32 + j) else none))))),
  .inl (1, 4, .inr (.inl (fun j => lN (w.2.2.1 0 j)))),
  .inl (1, 4, .inr (.inl (fun j => lN (w.2.2.1 1 j)))),
  .inl (1, 4, .inr (.inl (fun j => lN (w.2.2.1 2 j)))),
  .inl (1, 4, .inr (.inl (fun j => lN (w.2.2.1 3 j)))),
  .inl (1, 4, .inr (.inl (fun j => lN (w.2.2.1 4 j)))),
  .inl (1, 4, .inr (.inl (fun j => lN (w.2.2.1 5 j)))),
  .inl (1, 4, .inr (.inl (fun j => lN (w.2.2.1 6 j)))),
  .inl (3, 7, .inr (.inr (.inr (.inr (fun j => if j < 7 then some (40 + j) else none))))),
  .inl (1, 4, .inr (.inl (fun j => lN (w.2.2.2.1 0 j)))),
  .inl (1, 4, .inr (.inl (fun j => lN (w.2.2.2.1 1 j)))),
  .inl (1, 4, .inr (.inl (fun j => lN (w.2.2.2.1 2 j)))),
  .inl (1, 4, .inr (.inl (fun j => lN (w.2.2.2.1 3 j)))),
  .inl (1, 4, .inr (.inl (fun j => lN (w.2.2.2.1 4 j)))),
  .inl (1, 4, .inr (.inl (fun j => lN (w.2.2.2.1 5 j)))),
  .inl (1, 4, .inr (.inl (fun j => lN (w.2.2.2.1 6 j)))),
  .inl (3, 6, .inr (.inr (.inr (.inr (fun j => if j < 6 then some (48 + j) else none))))),
  .inl (1, 4, .inr (.inl (fun j => lN (w.2.2.2.2.1 0 j)))),
  .inl (1, 4, .inr (.inl (fun j => lN (w.2.2.2.2.1 1 j)))),
  .inl (1, 4, .inr (.inl (fun j => lN (w.2.2.2.2.1 2 j)))),
  .inl (1, 4, .inr (.inl (fun j => lN (w.2.2.2.2.1 3 j)))),
  .inl (1, 4, .inr (.inl (fun j => lN (w.2.2.2.2.1 4 j)))),
  .inl (1, 4, .inr (.inl (fun j => lN (w.2.2.2.2.1 5 j)))),
  .inr (3, [.ref 2, .ref 5, .int (nI 1), .ref 55, .ref 62, .ref 69, .ref 77, .ref 85, .int (nI c.2.2.2.2.2)]),
  .inl (3, 6, .inr (.inr (.inr (.inr (fun j => if j < 6 then some (56 + j) else none))))),
  .inl (1, 4, .inr (.inl (fun j => lN (c.1 0 j)))),
  .inl (1, 4, .inr (.inl (fun j => lN (c.1 1 j)))),
  .inl (1, 4, .inr (.inl (fun j => lN (c.1 2 j)))),
  .inl (1, 4, .inr (.inl (fun j => lN (c.1 3 j)))),
  .inl (1, 4, .inr (.inl (fun j => lN (c.1 4 j)))),
  .inl (1, 4, .inr (.inl (fun j => lN (c.1 5 j)))),
  .inl (3, 6, .inr (.inr (.inr (.inr (fun j => if j < 6 then some (63 + j) else none))))),
  .inl (1, 4, .inr (.inl (fun j => lN (c.2.1 0 j)))),
  .inl (1, 4, .inr (.inl (fun j => lN (c.2.1 1 j)))),
  .inl (1, 4, .inr (.inl (fun j => lN (c.2.1 2 j)))),
  .inl (1, 4, .inr (.inl (fun j => lN (c.2.1 3 j)))),
  .inl (1, 4, .inr (.inl (fun j => lN (c.2.1 4 j)))),
  .inl (1, 4, .inr (.inl (fun j => lN (c.2.1 5 j)))),
  .inl (3, 7, .inr (.inr (.inr (.inr (fun j => if j < 7 then some (70 + j) else none))))),
  .inl (1, 4, .inr (.inl (fun j => lN (c.2.2.1 0 j)))),
  .inl (1, 4, .inr (.inl (fun j => lN (c.2.2.1 1 j)))),
  .inl (1, 4, .inr (.inl (fun j => lN (c.2.2.1 2 j)))),
  .inl (1, 4, .inr (.inl (fun j => lN (c.2.2.1 3 j)))),
  .inl (1, 4, .inr (.inl (fun j => lN (c.2.2.1 4 j)))),
  .inl (1, 4, .inr (.inl (fun j => lN (c.2.2.1 5 j)))),
  .inl (1, 4, .inr (.inl (fun j => lN (c.2.2.1 6 j)))),
  .inl (3, 7, .inr (.inr (.inr (.inr (fun j => if j < 7 then some (78 + j) else none))))),
  .inl (1, 4, .inr (.inl (fun j => lN (c.2.2.2.1 0 j)))),
  .inl (1, 4, .inr (.inl (fun j => lN (c.2.2.2.1 1 j)))),
  .inl (1, 4, .inr (.inl (fun j => lN (c.2.2.2.1 2 j)))),
  .inl (1, 4, .inr (.inl (fun j => lN (c.2.2.2.1 3 j)))),
  .inl (1, 4, .inr (.inl (fun j => lN (c.2.2.2.1 4 j)))),
  .inl (1, 4, .inr (.inl (fun j => lN (c.2.2.2.1 5 j)))),
  .inl (1, 4, .inr (.inl (fun j => lN (c.2.2.2.1 6 j)))),
  .inl (3, 6, .inr (.inr (.inr (.inr (fun j => if j < 6 then some (86 + j) else none))))),
  .inl (1, 4, .inr (.inl (fun j => lN (c.2.2.2.2.1 0 j)))),
  .inl (1, 4, .inr (.inl (fun j => lN (c.2.2.2.2.1 1 j)))),
  .inl (1, 4, .inr (.inl (fun j => lN (c.2.2.2.2.1 2 j)))),
  .inl (1, 4, .inr (.inl (fun j => lN (c.2.2.2.2.1 3 j)))),
  .inl (1, 4, .inr (.inl (fun j => lN (c.2.2.2.2.1 4 j)))),
  .inl (1, 4, .inr (.inl (fun j => lN (c.2.2.2.2.1 5 j)))),
  .inr (4, [.ref 2, .ref 5, .ref 16, .ref 93, .ref 94, .int (nI b.2)]),
  .inl (4, 24, .inr (.inr (.inr (.inr (fun j => if j < 24 then some (97 + 3 * j) else none))))),
  .inr (5, [.ref 95, .ref 96, .int (nI (b.1 0).2.2)]),
  .inl (1, 10, .inr (.inl (fun j => lN ((b.1 0).1 j)))),
  .inl (0, 10, .inl (fun j => nI ((b.1 0).2.1 j))),
  .inr (5, [.ref 98, .ref 99, .int (nI (b.1 1).2.2)]),
  .inl (1, 10, .inr (.inl (fun j => lN ((b.1 1).1 j)))),
  .inl (0, 10, .inl (fun j => nI ((b.1 1).2.1 j))),
  .inr (5, [.ref 101, .ref 102, .int (nI (b.1 2).2.2)]),
  .inl (1, 10, .inr (.inl (fun j => lN ((b.1 2).1 j)))),
  .inl (0, 10, .inl (fun j => nI ((b.1 2).2.1 j))),
  .inr (5, [.ref 104, .ref 105, .int (nI (b.1 3).2.2)]),
  .inl (1, 10, .inr (.inl (fun j => lN ((b.1 3).1 j)))),
  .inl (0, 10, .inl (fun j => nI ((b.1 3).2.1 j))),
  .inr (5, [.ref 107, .ref 108, .int (nI (b.1 4).2.2)]),
  .inl (1, 10, .inr (.inl (fun j => lN ((b.1 4).1 j)))),
  .inl (0, 10, .inl (fun j => nI ((b.1 4).2.1 j))),
  .inr (5, [.ref 110, .ref 111, .int (nI (b.1 5).2.2)]),
  .inl (1, 10, .inr (.inl (fun j => lN ((b.1 5).1 j)))),
  .inl (0, 10, .inl (fun j => nI ((b.1 5).2.1 j))),
  .inr (5, [.ref 113, .ref 114, .int (nI (b.1 6).2.2)]),
  .inl (1, 10, .inr (.inl (fun j => lN ((b.1 6).1 j)))),
  .inl (0, 10, .inl (fun j => nI ((b.1 6).2.1 j))),
  .inr (5, [.ref 116, .ref 117, .int (nI (b.1 7).2.2)]),
  .inl (1, 10, .inr (.inl (fun j => lN ((b.1 7).1 j)))),
  .inl (0, 10, .inl (fun j => nI ((b.1 7).2.1 j))),
  .inr (5, [.ref 119, .ref 120, .int (nI (b.1 8).2.2)]),
  .inl (1, 10, .inr (.inl (fun j => lN ((b.1 8).1 j)))),
  .inl (0, 10, .inl (fun j => nI ((b.1 8).2.1 j))),
  .inr (5, [.ref 122, .ref 123, .int (nI (b.1 9).2.2)]),
  .inl (1, 10, .inr (.inl (fun j => lN ((b.1 9).1 j)))),
  .inl (0, 10, .inl (fun j => nI ((b.1 9).2.1 j))),
  .inr (5, [.ref 125, .ref 126, .int (nI (b.1 10).2.2)]),
  .inl (1, 10, .inr (.inl (fun j => lN ((b.1 10).1 j)))),
  .inl (0, 10, .inl (fun j => nI ((b.1 10).2.1 j))),
  .inr (5, [.ref 128, .ref 129, .int (nI (b.1 11).2.2)]),
  .inl (1, 10, .inr (.inl (fun j => lN ((b.1 11).1 j)))),
  .inl (0, 10, .inl (fun j => nI ((b.1 11).2.1 j))),
  .inr (5, [.ref 131, .ref 132, .int (nI (b.1 12).2.2)]),
  .inl (1, 10, .inr (.inl (fun j => lN ((b.1 12).1 j)))),
  .inl (0, 10, .inl (fun j => nI ((b.1 12).2.1 j))),
  .inr (5, [.ref 134, .ref 135, .int (nI (b.1 13).2.2)]),
  .inl (1, 10, .inr (.inl (fun j => lN ((b.1 13).1 j)))),
  .inl (0, 10, .inl (fun j => nI ((b.1 13).2.1 j))),
  .inr (5, [.ref 137, .ref 138, .int (nI (b.1 14).2.2)]),
  .inl (1, 10, .inr (.inl (fun j => lN ((b.1 14).1 j)))),
  .inl (0, 10, .inl (fun j => nI ((b.1 14).2.1 j))),
  .inr (5, [.ref 140, .ref 141, .int (nI (b.1 15).2.2)]),
  .inl (1, 10, .inr (.inl (fun j => lN ((b.1 15).1 j)))),
  .inl (0, 10, .inl (fun j => nI ((b.1 15).2.1 j))),
  .inr (5, [.ref 143, .ref 144, .int (nI (b.1 16).2.2)]),
  .inl (1, 10, .inr (.inl (fun j => lN ((b.1 16).1 j)))),
  .inl (0, 10, .inl (fun j => nI ((b.1 16).2.1 j))),
  .inr (5, [.ref 146, .ref 147, .int (nI (b.1 17).2.2)]),
  .inl (1, 10, .inr (.inl (fun j => lN ((b.1 17).1 j)))),
  .inl (0, 10, .inl (fun j => nI ((b.1 17).2.1 j))),
  .inr (5, [.ref 149, .ref 150, .int (nI (b.1 18).2.2)]),
  .inl (1, 10, .inr (.inl (fun j => lN ((b.1 18).1 j)))),
  .inl (0, 10, .inl (fun j => nI ((b.1 18).2.1 j))),
  .inr (5, [.ref 152, .ref 153, .int (nI (b.1 19).2.2)]),
  .inl (1, 10, .inr (.inl (fun j => lN ((b.1 19).1 j)))),
  .inl (0, 10, .inl (fun j => nI ((b.1 19).2.1 j))),
  .inr (5, [.ref 155, .ref 156, .int (nI (b.1 20).2.2)]),
  .inl (1, 10, .inr (.inl (fun j => lN ((b.1 20).1 j)))),
  .inl (0, 10, .inl (fun j => nI ((b.1 20).2.1 j))),
  .inr (5, [.ref 158, .ref 159, .int (nI (b.1 21).2.2)]),
  .inl (1, 10, .inr (.inl (fun j => lN ((b.1 21).1 j)))),
  .inl (0, 10, .inl (fun j => nI ((b.1 21).2.1 j))),
  .inr (5, [.ref 161, .ref 162, .int (nI (b.1 22).2.2)]),
  .inl (1, 10, .inr (.inl (fun j => lN ((b.1 22).1 j)))),
  .inl (0, 10, .inl (fun j => nI ((b.1 22).2.1 j))),
  .inr (5, [.ref 164, .ref 165, .int (nI (b.1 23).2.2)]),
  .inl (1, 10, .inr (.inl (fun j => lN ((b.1 23).1 j)))),
  .inl (0, 10, .inl (fun j => nI ((b.1 23).2.1 j))),
  .inr (5, [.ref 167, .ref 168, .int (nI (b.1 24).2.2)]),
  .inl (1, 10, .inr (.inl (fun j => lN ((b.1 24).1 j)))),
  .inl (0, 10, .inl (fun j => nI ((b.1 24).2.1 j))),
  .inr (6, [.ref 2, .ref 5, .ref 16, .long (lN d.1), .int (nI d.2.1), .int (nI d.2.2.1), .long (lN d.2.2.2.1), .int (nI d.2.2.2.2.1), .int (nI d.2.2.2.2.2)]),
  .inr (7, [.ref 171, .ref 176, .int (nI k.2.2)]),
  .inl (2, 4, .inr (.inr (.inr (.inr (fun j => if j < 4 then some (172 + j) else none))))),
  .inl (0, 16, .inl (fun j => nI (k.1 0 j))),
  .inl (0, 16, .inl (fun j => nI (k.1 1 j))),
  .inl (0, 16, .inl (fun j => nI (k.1 2 j))),
  .inl (0, 16, .inl (fun j => nI (k.1 3 j))),
  .inl (2, 4, .inr (.inr (.inr (.inr (fun j => if j < 4 then some (177 + j) else none))))),
  .inl (0, 4, .inl (fun j => nI (k.2.1 0 j))),
  .inl (0, 4, .inl (fun j => nI (k.2.1 1 j))),
  .inl (0, 4, .inl (fun j => nI (k.2.1 2 j))),
  .inl (0, 4, .inl (fun j => nI (k.2.1 3 j))),
  .inr (8, [.ref 2, .ref 170, .ref 182, .ref 187, .ref 192, .ref 197, .ref 202, .ref 203, .int (nI t.2.2.2.2.2.2.1), .int (nI t.2.2.2.2.2.2.2)]),
  .inl (3, 4, .inr (.inr (.inr (.inr (fun j => if j < 4 then some (183 + j) else none))))),
  .inl (1, 36, .inr (.inl (fun j => lN (t.1 0 j)))),
  .inl (1, 36, .inr (.inl (fun j => lN (t.1 1 j)))),
  .inl (1, 36, .inr (.inl (fun j => lN (t.1 2 j)))),
  .inl (1, 36, .inr (.inl (fun j => lN (t.1 3 j)))),
  .inl (3, 4, .inr (.inr (.inr (.inr (fun j => if j < 4 then some (188 + j) else none))))),
  .inl (1, 36, .inr (.inl (fun j => lN (t.2.1 0 j)))),
  .inl (1, 36, .inr (.inl (fun j => lN (t.2.1 1 j)))),
  .inl (1, 36, .inr (.inl (fun j => lN (t.2.1 2 j)))),
  .inl (1, 36, .inr (.inl (fun j => lN (t.2.1 3 j)))),
  .inl (3, 4, .inr (.inr (.inr (.inr (fun j => if j < 4 then some (193 + j) else none))))),
  .inl (1, 36, .inr (.inl (fun j => lN (t.2.2.1 0 j)))),
  .inl (1, 36, .inr (.inl (fun j => lN (t.2.2.1 1 j)))),
  .inl (1, 36, .inr (.inl (fun j => lN (t.2.2.1 2 j)))),
  .inl (1, 36, .inr (.inl (fun j => lN (t.2.2.1 3 j)))),
  .inl (3, 4, .inr (.inr (.inr (.inr (fun j => if j < 4 then some (198 + j) else none))))),
  .inl (1, 36, .inr (.inl (fun j => lN (t.2.2.2.1 0 j)))),
  .inl (1, 36, .inr (.inl (fun j => lN (t.2.2.2.1 1 j)))),
  .inl (1, 36, .inr (.inl (fun j => lN (t.2.2.2.1 2 j)))),
  .inl (1, 36, .inr (.inl (fun j => lN (t.2.2.2.1 3 j)))),
  .inl (0, 7, .inl (fun j => nI (t.2.2.2.2.1 j))),
  .inl (0, 7, .inl (fun j => nI (t.2.2.2.2.2.1 j)))]
/-- the reference: states, kinds, places, way, what is known, drawn, tables, tells -/
def hm (ms mk : hA) (mp : hP) (mw : Nat → Int32) (mc : hC) (md : Nat × (Nat → Int32)) (mt : hF) (me : hE) : List ab_C := [
  .inr (9, [.int (nI ms.1), .ref 205, .ref 206, .int (nI mk.1), .ref 207, .ref 208, .int (nI mp.1), .ref 209, .ref 210, .int (nI mc.1), .int (nI md.1), .ref 211, .long (lN mc.2.1), .int (nI mc.2.2.1), .ref 212, .ref 213, .ref 214, .int (nI mc.2.2.2.2.2.2.1), .ref 215, .ref 216, .ref 217, .ref 218, .ref 219, .ref 220, .ref 221, .ref 222, .ref 223]),
  .inl (0, 36, .inl (fun j => nI (ms.2.1 j))),
  .inl (0, 16, .inl (fun j => nI (ms.2.2 j))),
  .inl (0, 64, .inl (fun j => nI (mk.2.1 j))),
  .inl (0, 16, .inl (fun j => nI (mk.2.2 j))),
  .inl (0, 6, .inl mp.2.1),
  .inl (0, 6, .inl mp.2.2),
  .inl (0, 7, .inl mw),
  .inl (1, 24, .inr (.inl (fun j => lN (mc.2.2.2.1 j)))),
  .inl (1, 24, .inr (.inl (fun j => lN (mc.2.2.2.2.1 j)))),
  .inl (1, 96, .inr (.inl (fun j => lN (mc.2.2.2.2.2.1 j)))),
  .inl (1, 11, .inr (.inl (fun j => lN (mc.2.2.2.2.2.2.2.1 j)))),
  .inl (0, 66, .inl mc.2.2.2.2.2.2.2.2),
  .inl (0, 6, .inl md.2),
  .inl (1, 144, .inr (.inl (fun j => lN (mt.1 j)))),
  .inl (1, 144, .inr (.inl (fun j => lN (mt.2.1 j)))),
  .inl (1, 144, .inr (.inl (fun j => lN (mt.2.2 j)))),
  .inl (0, 12, .inl me.1),
  .inl (0, 12, .inl me.2.1),
  .inl (0, 12, .inl me.2.2)]
/-- one number of a table, of an array -/
def up2 (f : hG) (i j x : Nat) : hG := va_up f i (va_up (f i) j x)
set_option maxRecDepth 20000 in
theorem up_l (g : Nat → Nat) (j x : Nat) : vp_updL (fun j => lN (g j)) j (lN x) = fun i => lN (va_up g j x i) := funext fun i => by unfold vp_updL va_up; split <;> rfl
set_option maxRecDepth 20000 in
theorem up_i (g : Nat → Nat) (j x : Nat) : upd (fun j => nI (g j)) j (nI x) = fun i => nI (va_up g j x i) := funext fun i => by unfold upd va_up; split <;> rfl
section HQ
variable {r : hR} {s : hS} {w c : hW} {b : hB} {d : hD} {k : hK} {t : hT} {Z : List ab_C}
set_option maxRecDepth 20000 in
theorem hq_0 : (hc r s w c b d k t ++ Z)[0]? = some (.inr (0, [.ref 2, .ref 5, .ref 16, .ref 54, .ref 92, .ref 169, .ref 170, .ref 181])) := rfl
set_option maxRecDepth 20000 in
theorem hq_1 : (hc r s w c b d k t ++ Z)[1]? = some (.inr (1, [.ref 3, .ref 4, .int (nI r.2.2)])) := rfl
set_option maxRecDepth 20000 in
theorem hq_2 : (hc r s w c b d k t ++ Z)[2]? = some (.inl (0, 6, .inl r.1)) := rfl
set_option maxRecDepth 20000 in
theorem hq_3 : (hc r s w c b d k t ++ Z)[3]? = some (.inl (0, 6, .inl r.2.1)) := rfl
set_option maxRecDepth 20000 in
theorem hq_4 : (hc r s w c b d k t ++ Z)[4]? = some (.inr (2, [.ref 6, .ref 11, .int (nI s.2.2)])) := rfl
set_option maxRecDepth 20000 in
theorem hq_15 : (hc r s w c b d k t ++ Z)[15]? = some (.inr (3, [.ref 2, .ref 5, .int (nI 2147483647), .ref 17, .ref 24, .ref 31, .ref 39, .ref 47, .int (nI w.2.2.2.2.2)])) := rfl
set_option maxRecDepth 20000 in
theorem hq_53 : (hc r s w c b d k t ++ Z)[53]? = some (.inr (3, [.ref 2, .ref 5, .int (nI 1), .ref 55, .ref 62, .ref 69, .ref 77, .ref 85, .int (nI c.2.2.2.2.2)])) := rfl
set_option maxRecDepth 20000 in
theorem hq_91 : (hc r s w c b d k t ++ Z)[91]? = some (.inr (4, [.ref 2, .ref 5, .ref 16, .ref 93, .ref 94, .int (nI b.2)])) := rfl
set_option maxRecDepth 20000 in
theorem hq_92 : (hc r s w c b d k t ++ Z)[92]? = some (.inl (4, 24, .inr (.inr (.inr (.inr (fun j => if j < 24 then some (97 + 3 * j) else none)))))) := rfl
set_option maxRecDepth 20000 in
theorem hq_168 : (hc r s w c b d k t ++ Z)[168]? = some (.inr (6, [.ref 2, .ref 5, .ref 16, .long (lN d.1), .int (nI d.2.1), .int (nI d.2.2.1), .long (lN d.2.2.2.1), .int (nI d.2.2.2.2.1), .int (nI d.2.2.2.2.2)])) := rfl
set_option maxRecDepth 20000 in
theorem hq_169 : (hc r s w c b d k t ++ Z)[169]? = some (.inr (7, [.ref 171, .ref 176, .int (nI k.2.2)])) := rfl
set_option maxRecDepth 20000 in
theorem hq_180 : (hc r s w c b d k t ++ Z)[180]? = some (.inr (8, [.ref 2, .ref 170, .ref 182, .ref 187, .ref 192, .ref 197, .ref 202, .ref 203, .int (nI t.2.2.2.2.2.2.1), .int (nI t.2.2.2.2.2.2.2)])) := rfl
set_option maxRecDepth 20000 in
theorem hq_201 : (hc r s w c b d k t ++ Z)[201]? = some (.inl (0, 7, .inl (fun j => nI (t.2.2.2.2.1 j)))) := rfl
set_option maxRecDepth 20000 in
theorem hq_202 : (hc r s w c b d k t ++ Z)[202]? = some (.inl (0, 7, .inl (fun j => nI (t.2.2.2.2.2.1 j)))) := rfl
set_option maxRecDepth 20000 in
theorem hq_5 : (hc r s w c b d k t ++ Z)[5]? = some (.inl (2, 4, .inr (.inr (.inr (.inr (fun j => if j < 4 then some (7 + j) else none)))))) := rfl
set_option maxRecDepth 20000 in
theorem hq_10 : (hc r s w c b d k t ++ Z)[10]? = some (.inl (2, 4, .inr (.inr (.inr (.inr (fun j => if j < 4 then some (12 + j) else none)))))) := rfl
set_option maxRecDepth 20000 in
theorem hq_16 : (hc r s w c b d k t ++ Z)[16]? = some (.inl (3, 6, .inr (.inr (.inr (.inr (fun j => if j < 6 then some (18 + j) else none)))))) := rfl
set_option maxRecDepth 20000 in
theorem hq_23 : (hc r s w c b d k t ++ Z)[23]? = some (.inl (3, 6, .inr (.inr (.inr (.inr (fun j => if j < 6 then some (25 + j) else none)))))) := rfl
set_option maxRecDepth 20000 in
theorem hq_30 : (hc r s w c b d k t ++ Z)[30]? = some (.inl (3, 7, .inr (.inr (.inr (.inr (fun j => if j < 7 then some (32 + j) else none)))))) := rfl
set_option maxRecDepth 20000 in
theorem hq_38 : (hc r s w c b d k t ++ Z)[38]? = some (.inl (3, 7, .inr (.inr (.inr (.inr (fun j => if j < 7 then some (40 + j) else none)))))) := rfl
set_option maxRecDepth 20000 in
theorem hq_46 : (hc r s w c b d k t ++ Z)[46]? = some (.inl (3, 6, .inr (.inr (.inr (.inr (fun j => if j < 6 then some (48 + j) else none)))))) := rfl
set_option maxRecDepth 20000 in
theorem hq_54 : (hc r s w c b d k t ++ Z)[54]? = some (.inl (3, 6, .inr (.inr (.inr (.inr (fun j => if j < 6 then some (56 + j) else none)))))) := rfl
set_option maxRecDepth 20000 in
theorem hq_61 : (hc r s w c b d k t ++ Z)[61]? = some (.inl (3, 6, .inr (.inr (.inr (.inr (fun j => if j < 6 then some (63 + j) else none)))))) := rfl
set_option maxRecDepth 20000 in
theorem hq_68 : (hc r s w c b d k t ++ Z)[68]? = some (.inl (3, 7, .inr (.inr (.inr (.inr (fun j => if j < 7 then some (70 + j) else none)))))) := rfl
set_option maxRecDepth 20000 in
theorem hq_76 : (hc r s w c b d k t ++ Z)[76]? = some (.inl (3, 7, .inr (.inr (.inr (.inr (fun j => if j < 7 then some (78 + j) else none)))))) := rfl
set_option maxRecDepth 20000 in
theorem hq_84 : (hc r s w c b d k t ++ Z)[84]? = some (.inl (3, 6, .inr (.inr (.inr (.inr (fun j => if j < 6 then some (86 + j) else none)))))) := rfl
set_option maxRecDepth 20000 in
theorem hq_170 : (hc r s w c b d k t ++ Z)[170]? = some (.inl (2, 4, .inr (.inr (.inr (.inr (fun j => if j < 4 then some (172 + j) else none)))))) := rfl
set_option maxRecDepth 20000 in
theorem hq_175 : (hc r s w c b d k t ++ Z)[175]? = some (.inl (2, 4, .inr (.inr (.inr (.inr (fun j => if j < 4 then some (177 + j) else none)))))) := rfl
set_option maxRecDepth 20000 in
theorem hq_181 : (hc r s w c b d k t ++ Z)[181]? = some (.inl (3, 4, .inr (.inr (.inr (.inr (fun j => if j < 4 then some (183 + j) else none)))))) := rfl
set_option maxRecDepth 20000 in
theorem hq_186 : (hc r s w c b d k t ++ Z)[186]? = some (.inl (3, 4, .inr (.inr (.inr (.inr (fun j => if j < 4 then some (188 + j) else none)))))) := rfl
set_option maxRecDepth 20000 in
theorem hq_191 : (hc r s w c b d k t ++ Z)[191]? = some (.inl (3, 4, .inr (.inr (.inr (.inr (fun j => if j < 4 then some (193 + j) else none)))))) := rfl
set_option maxRecDepth 20000 in
theorem hq_196 : (hc r s w c b d k t ++ Z)[196]? = some (.inl (3, 4, .inr (.inr (.inr (.inr (fun j => if j < 4 then some (198 + j) else none)))))) := rfl
set_option maxRecDepth 20000 in
theorem hq_93 : (hc r s w c b d k t ++ Z)[93]? = some (.inr (5, [.ref 95, .ref 96, .int (nI (b.1 0).2.2)])) := rfl
set_option maxRecDepth 20000 in
theorem hr_wt {i : Nat} (hi : i < 4) : (hc r s w c b d k t ++ Z)[6 + i]? = some (.inl (0, 9, .inl (fun j => nI (s.1 i j)))) := by
  rcases (show i = 0 ∨ i = 1 ∨ i = 2 ∨ i = 3 by omega) with rfl | rfl | rfl | rfl <;> rfl
set_option maxRecDepth 20000 in
theorem hw_wt {i j x : Nat} (hi : i < 4) : (hc r s w c b d k t ++ Z).set (6 + i) (.inl (0, 9, .inl (upd (fun j => nI (s.1 i j)) j (nI x)))) = hc r (up2 s.1 i j x, s.2.1, s.2.2) w c b d k t ++ Z := by
  rw [up_i]
  rcases (show i = 0 ∨ i = 1 ∨ i = 2 ∨ i = 3 by omega) with rfl | rfl | rfl | rfl <;> rfl
set_option maxRecDepth 20000 in
theorem hg_wt {j : Nat} (hj : j < 4) : (if j < 4 then some (7 + j) else none : Option Nat) = some (6 + j + 1) := by rw [if_pos hj]; congr 1; omega
set_option maxRecDepth 20000 in
theorem hr_mv {i : Nat} (hi : i < 4) : (hc r s w c b d k t ++ Z)[11 + i]? = some (.inl (0, 4, .inl (fun j => nI (s.2.1 i j)))) := by
  rcases (show i = 0 ∨ i = 1 ∨ i = 2 ∨ i = 3 by omega) with rfl | rfl | rfl | rfl <;> rfl
set_option maxRecDepth 20000 in
theorem hw_mv {i j x : Nat} (hi : i < 4) : (hc r s w c b d k t ++ Z).set (11 + i) (.inl (0, 4, .inl (upd (fun j => nI (s.2.1 i j)) j (nI x)))) = hc r (s.1, up2 s.2.1 i j x, s.2.2) w c b d k t ++ Z := by
  rw [up_i]
  rcases (show i = 0 ∨ i = 1 ∨ i = 2 ∨ i = 3 by omega) with rfl | rfl | rfl | rfl <;> rfl
set_option maxRecDepth 20000 in
theorem hg_mv {j : Nat} (hj : j < 4) : (if j < 4 then some (12 + j) else none : Option Nat) = some (11 + j + 1) := by rw [if_pos hj]; congr 1; omega
set_option maxRecDepth 20000 in
theorem hr_sh {i : Nat} (hi : i < 6) : (hc r s w c b d k t ++ Z)[17 + i]? = some (.inl (1, 4, .inr (.inl (fun j => lN (w.1 i j))))) := by
  rcases (show i = 0 ∨ i = 1 ∨ i = 2 ∨ i = 3 ∨ i = 4 ∨ i = 5 by omega) with rfl | rfl | rfl | rfl | rfl | rfl <;> rfl
set_option maxRecDepth 20000 in
theorem hw_sh {i j x : Nat} (hi : i < 6) : (hc r s w c b d k t ++ Z).set (17 + i) (.inl (1, 4, .inr (.inl (vp_updL (fun j => lN (w.1 i j)) j (lN x))))) = hc r s (up2 w.1 i j x, w.2.1, w.2.2.1, w.2.2.2.1, w.2.2.2.2.1, w.2.2.2.2.2) c b d k t ++ Z := by
  rw [up_l]
  rcases (show i = 0 ∨ i = 1 ∨ i = 2 ∨ i = 3 ∨ i = 4 ∨ i = 5 by omega) with rfl | rfl | rfl | rfl | rfl | rfl <;> rfl
set_option maxRecDepth 20000 in
theorem hg_sh {j : Nat} (hj : j < 6) : (if j < 6 then some (18 + j) else none : Option Nat) = some (17 + j + 1) := by rw [if_pos hj]; congr 1; omega
set_option maxRecDepth 20000 in
theorem hr_fr {i : Nat} (hi : i < 6) : (hc r s w c b d k t ++ Z)[24 + i]? = some (.inl (1, 4, .inr (.inl (fun j => lN (w.2.1 i j))))) := by
  rcases (show i = 0 ∨ i = 1 ∨ i = 2 ∨ i = 3 ∨ i = 4 ∨ i = 5 by omega) with rfl | rfl | rfl | rfl | rfl | rfl <;> rfl
set_option maxRecDepth 20000 in
theorem hw_fr {i j x : Nat} (hi : i < 6) : (hc r s w c b d k t ++ Z).set (24 + i) (.inl (1, 4, .inr (.inl (vp_updL (fun j => lN (w.2.1 i j)) j (lN x))))) = hc r s (w.1, up2 w.2.1 i j x, w.2.2.1, w.2.2.2.1, w.2.2.2.2.1, w.2.2.2.2.2) c b d k t ++ Z := by
  rw [up_l]
  rcases (show i = 0 ∨ i = 1 ∨ i = 2 ∨ i = 3 ∨ i = 4 ∨ i = 5 by omega) with rfl | rfl | rfl | rfl | rfl | rfl <;> rfl
set_option maxRecDepth 20000 in
theorem hg_fr {j : Nat} (hj : j < 6) : (if j < 6 then some (25 + j) else none : Option Nat) = some (24 + j + 1) := by rw [if_pos hj]; congr 1; omega
set_option maxRecDepth 20000 in
theorem hr_le {i : Nat} (hi : i < 7) : (hc r s w c b d k t ++ Z)[31 + i]? = some (.inl (1, 4, .inr (.inl (fun j => lN (w.2.2.1 i j))))) := by
  rcases (show i = 0 ∨ i = 1 ∨ i = 2 ∨ i = 3 ∨ i = 4 ∨ i = 5 ∨ i = 6 by omega) with rfl | rfl | rfl | rfl | rfl | rfl | rfl <;> rfl
set_option maxRecDepth 20000 in
theorem hw_le {i j x : Nat} (hi : i < 7) : (hc r s w c b d k t ++ Z).set (31 + i) (.inl (1, 4, .inr (.inl (vp_updL (fun j => lN (w.2.2.1 i j)) j (lN x))))) = hc r s (w.1, w.2.1, up2 w.2.2.1 i j x, w.2.2.2.1, w.2.2.2.2.1, w.2.2.2.2.2) c b d k t ++ Z := by
  rw [up_l]
  rcases (show i = 0 ∨ i = 1 ∨ i = 2 ∨ i = 3 ∨ i = 4 ∨ i = 5 ∨ i = 6 by omega) with rfl | rfl | rfl | rfl | rfl | rfl | rfl <;> rfl
set_option maxRecDepth 20000 in
theorem hg_le {j : Nat} (hj : j < 7) : (if j < 7 then some (32 + j) else none : Option Nat) = some (31 + j + 1) := by rw [if_pos hj]; congr 1; omega
set_option maxRecDepth 20000 in
theorem hr_up {i : Nat} (hi : i < 7) : (hc r s w c b d k t ++ Z)[39 + i]? = some (.inl (1, 4, .inr (.inl (fun j => lN (w.2.2.2.1 i j))))) := by
  rcases (show i = 0 ∨ i = 1 ∨ i = 2 ∨ i = 3 ∨ i = 4 ∨ i = 5 ∨ i = 6 by omega) with rfl | rfl | rfl | rfl | rfl | rfl | rfl <;> rfl
set_option maxRecDepth 20000 in
theorem hw_up {i j x : Nat} (hi : i < 7) : (hc r s w c b d k t ++ Z).set (39 + i) (.inl (1, 4, .inr (.inl (vp_updL (fun j => lN (w.2.2.2.1 i j)) j (lN x))))) = hc r s (w.1, w.2.1, w.2.2.1, up2 w.2.2.2.1 i j x, w.2.2.2.2.1, w.2.2.2.2.2) c b d k t ++ Z := by
  rw [up_l]
  rcases (show i = 0 ∨ i = 1 ∨ i = 2 ∨ i = 3 ∨ i = 4 ∨ i = 5 ∨ i = 6 by omega) with rfl | rfl | rfl | rfl | rfl | rfl | rfl <;> rfl
set_option maxRecDepth 20000 in
theorem hg_up {j : Nat} (hj : j < 7) : (if j < 7 then some (40 + j) else none : Option Nat) = some (39 + j + 1) := by rw [if_pos hj]; congr 1; omega
set_option maxRecDepth 20000 in
theorem hr_en {i : Nat} (hi : i < 6) : (hc r s w c b d k t ++ Z)[47 + i]? = some (.inl (1, 4, .inr (.inl (fun j => lN (w.2.2.2.2.1 i j))))) := by
  rcases (show i = 0 ∨ i = 1 ∨ i = 2 ∨ i = 3 ∨ i = 4 ∨ i = 5 by omega) with rfl | rfl | rfl | rfl | rfl | rfl <;> rfl
set_option maxRecDepth 20000 in
theorem hw_en {i j x : Nat} (hi : i < 6) : (hc r s w c b d k t ++ Z).set (47 + i) (.inl (1, 4, .inr (.inl (vp_updL (fun j => lN (w.2.2.2.2.1 i j)) j (lN x))))) = hc r s (w.1, w.2.1, w.2.2.1, w.2.2.2.1, up2 w.2.2.2.2.1 i j x, w.2.2.2.2.2) c b d k t ++ Z := by
  rw [up_l]
  rcases (show i = 0 ∨ i = 1 ∨ i = 2 ∨ i = 3 ∨ i = 4 ∨ i = 5 by omega) with rfl | rfl | rfl | rfl | rfl | rfl <;> rfl
set_option maxRecDepth 20000 in
theorem hg_en {j : Nat} (hj : j < 6) : (if j < 6 then some (48 + j) else none : Option Nat) = some (47 + j + 1) := by rw [if_pos hj]; congr 1; omega
set_option maxRecDepth 20000 in
theorem hr_csh {i : Nat} (hi : i < 6) : (hc r s w c b d k t ++ Z)[55 + i]? = some (.inl (1, 4, .inr (.inl (fun j => lN (c.1 i j))))) := by
  rcases (show i = 0 ∨ i = 1 ∨ i = 2 ∨ i = 3 ∨ i = 4 ∨ i = 5 by omega) with rfl | rfl | rfl | rfl | rfl | rfl <;> rfl
set_option maxRecDepth 20000 in
theorem hw_csh {i j x : Nat} (hi : i < 6) : (hc r s w c b d k t ++ Z).set (55 + i) (.inl (1, 4, .inr (.inl (vp_updL (fun j => lN (c.1 i j)) j (lN x))))) = hc r s w (up2 c.1 i j x, c.2.1, c.2.2.1, c.2.2.2.1, c.2.2.2.2.1, c.2.2.2.2.2) b d k t ++ Z := by
  rw [up_l]
  rcases (show i = 0 ∨ i = 1 ∨ i = 2 ∨ i = 3 ∨ i = 4 ∨ i = 5 by omega) with rfl | rfl | rfl | rfl | rfl | rfl <;> rfl
set_option maxRecDepth 20000 in
theorem hg_csh {j : Nat} (hj : j < 6) : (if j < 6 then some (56 + j) else none : Option Nat) = some (55 + j + 1) := by rw [if_pos hj]; congr 1; omega
set_option maxRecDepth 20000 in
theorem hr_cfr {i : Nat} (hi : i < 6) : (hc r s w c b d k t ++ Z)[62 + i]? = some (.inl (1, 4, .inr (.inl (fun j => lN (c.2.1 i j))))) := by
  rcases (show i = 0 ∨ i = 1 ∨ i = 2 ∨ i = 3 ∨ i = 4 ∨ i = 5 by omega) with rfl | rfl | rfl | rfl | rfl | rfl <;> rfl
set_option maxRecDepth 20000 in
theorem hw_cfr {i j x : Nat} (hi : i < 6) : (hc r s w c b d k t ++ Z).set (62 + i) (.inl (1, 4, .inr (.inl (vp_updL (fun j => lN (c.2.1 i j)) j (lN x))))) = hc r s w (c.1, up2 c.2.1 i j x, c.2.2.1, c.2.2.2.1, c.2.2.2.2.1, c.2.2.2.2.2) b d k t ++ Z := by
  rw [up_l]
  rcases (show i = 0 ∨ i = 1 ∨ i = 2 ∨ i = 3 ∨ i = 4 ∨ i = 5 by omega) with rfl | rfl | rfl | rfl | rfl | rfl <;> rfl
set_option maxRecDepth 20000 in
theorem hg_cfr {j : Nat} (hj : j < 6) : (if j < 6 then some (63 + j) else none : Option Nat) = some (62 + j + 1) := by rw [if_pos hj]; congr 1; omega
set_option maxRecDepth 20000 in
theorem hr_cle {i : Nat} (hi : i < 7) : (hc r s w c b d k t ++ Z)[69 + i]? = some (.inl (1, 4, .inr (.inl (fun j => lN (c.2.2.1 i j))))) := by
  rcases (show i = 0 ∨ i = 1 ∨ i = 2 ∨ i = 3 ∨ i = 4 ∨ i = 5 ∨ i = 6 by omega) with rfl | rfl | rfl | rfl | rfl | rfl | rfl <;> rfl
set_option maxRecDepth 20000 in
theorem hw_cle {i j x : Nat} (hi : i < 7) : (hc r s w c b d k t ++ Z).set (69 + i) (.inl (1, 4, .inr (.inl (vp_updL (fun j => lN (c.2.2.1 i j)) j (lN x))))) = hc r s w (c.1, c.2.1, up2 c.2.2.1 i j x, c.2.2.2.1, c.2.2.2.2.1, c.2.2.2.2.2) b d k t ++ Z := by
  rw [up_l]
  rcases (show i = 0 ∨ i = 1 ∨ i = 2 ∨ i = 3 ∨ i = 4 ∨ i = 5 ∨ i = 6 by omega) with rfl | rfl | rfl | rfl | rfl | rfl | rfl <;> rfl
set_option maxRecDepth 20000 in
theorem hg_cle {j : Nat} (hj : j < 7) : (if j < 7 then some (70 + j) else none : Option Nat) = some (69 + j + 1) := by rw [if_pos hj]; congr 1; omega
set_option maxRecDepth 20000 in
theorem hr_cup {i : Nat} (hi : i < 7) : (hc r s w c b d k t ++ Z)[77 + i]? = some (.inl (1, 4, .inr (.inl (fun j => lN (c.2.2.2.1 i j))))) := by
  rcases (show i = 0 ∨ i = 1 ∨ i = 2 ∨ i = 3 ∨ i = 4 ∨ i = 5 ∨ i = 6 by omega) with rfl | rfl | rfl | rfl | rfl | rfl | rfl <;> rfl
set_option maxRecDepth 20000 in
theorem hw_cup {i j x : Nat} (hi : i < 7) : (hc r s w c b d k t ++ Z).set (77 + i) (.inl (1, 4, .inr (.inl (vp_updL (fun j => lN (c.2.2.2.1 i j)) j (lN x))))) = hc r s w (c.1, c.2.1, c.2.2.1, up2 c.2.2.2.1 i j x, c.2.2.2.2.1, c.2.2.2.2.2) b d k t ++ Z := by
  rw [up_l]
  rcases (show i = 0 ∨ i = 1 ∨ i = 2 ∨ i = 3 ∨ i = 4 ∨ i = 5 ∨ i = 6 by omega) with rfl | rfl | rfl | rfl | rfl | rfl | rfl <;> rfl
set_option maxRecDepth 20000 in
theorem hg_cup {j : Nat} (hj : j < 7) : (if j < 7 then some (78 + j) else none : Option Nat) = some (77 + j + 1) := by rw [if_pos hj]; congr 1; omega
set_option maxRecDepth 20000 in
theorem hr_cen {i : Nat} (hi : i < 6) : (hc r s w c b d k t ++ Z)[85 + i]? = some (.inl (1, 4, .inr (.inl (fun j => lN (c.2.2.2.2.1 i j))))) := by
  rcases (show i = 0 ∨ i = 1 ∨ i = 2 ∨ i = 3 ∨ i = 4 ∨ i = 5 by omega) with rfl | rfl | rfl | rfl | rfl | rfl <;> rfl
set_option maxRecDepth 20000 in
theorem hw_cen {i j x : Nat} (hi : i < 6) : (hc r s w c b d k t ++ Z).set (85 + i) (.inl (1, 4, .inr (.inl (vp_updL (fun j => lN (c.2.2.2.2.1 i j)) j (lN x))))) = hc r s w (c.1, c.2.1, c.2.2.1, c.2.2.2.1, up2 c.2.2.2.2.1 i j x, c.2.2.2.2.2) b d k t ++ Z := by
  rw [up_l]
  rcases (show i = 0 ∨ i = 1 ∨ i = 2 ∨ i = 3 ∨ i = 4 ∨ i = 5 by omega) with rfl | rfl | rfl | rfl | rfl | rfl <;> rfl
set_option maxRecDepth 20000 in
theorem hg_cen {j : Nat} (hj : j < 6) : (if j < 6 then some (86 + j) else none : Option Nat) = some (85 + j + 1) := by rw [if_pos hj]; congr 1; omega
set_option maxRecDepth 20000 in
theorem hr_ru {i : Nat} (hi : i < 4) : (hc r s w c b d k t ++ Z)[171 + i]? = some (.inl (0, 16, .inl (fun j => nI (k.1 i j)))) := by
  rcases (show i = 0 ∨ i = 1 ∨ i = 2 ∨ i = 3 by omega) with rfl | rfl | rfl | rfl <;> rfl
set_option maxRecDepth 20000 in
theorem hw_ru {i j x : Nat} (hi : i < 4) : (hc r s w c b d k t ++ Z).set (171 + i) (.inl (0, 16, .inl (upd (fun j => nI (k.1 i j)) j (nI x)))) = hc r s w c b d (up2 k.1 i j x, k.2.1, k.2.2) t ++ Z := by
  rw [up_i]
  rcases (show i = 0 ∨ i = 1 ∨ i = 2 ∨ i = 3 by omega) with rfl | rfl | rfl | rfl <;> rfl
set_option maxRecDepth 20000 in
theorem hg_ru {j : Nat} (hj : j < 4) : (if j < 4 then some (172 + j) else none : Option Nat) = some (171 + j + 1) := by rw [if_pos hj]; congr 1; omega
set_option maxRecDepth 20000 in
theorem hr_lf {i : Nat} (hi : i < 4) : (hc r s w c b d k t ++ Z)[176 + i]? = some (.inl (0, 4, .inl (fun j => nI (k.2.1 i j)))) := by
  rcases (show i = 0 ∨ i = 1 ∨ i = 2 ∨ i = 3 by omega) with rfl | rfl | rfl | rfl <;> rfl
set_option maxRecDepth 20000 in
theorem hw_lf {i j x : Nat} (hi : i < 4) : (hc r s w c b d k t ++ Z).set (176 + i) (.inl (0, 4, .inl (upd (fun j => nI (k.2.1 i j)) j (nI x)))) = hc r s w c b d (k.1, up2 k.2.1 i j x, k.2.2) t ++ Z := by
  rw [up_i]
  rcases (show i = 0 ∨ i = 1 ∨ i = 2 ∨ i = 3 by omega) with rfl | rfl | rfl | rfl <;> rfl
set_option maxRecDepth 20000 in
theorem hg_lf {j : Nat} (hj : j < 4) : (if j < 4 then some (177 + j) else none : Option Nat) = some (176 + j + 1) := by rw [if_pos hj]; congr 1; omega
set_option maxRecDepth 20000 in
theorem hr_su {i : Nat} (hi : i < 4) : (hc r s w c b d k t ++ Z)[182 + i]? = some (.inl (1, 36, .inr (.inl (fun j => lN (t.1 i j))))) := by
  rcases (show i = 0 ∨ i = 1 ∨ i = 2 ∨ i = 3 by omega) with rfl | rfl | rfl | rfl <;> rfl
set_option maxRecDepth 20000 in
theorem hw_su {i j x : Nat} (hi : i < 4) : (hc r s w c b d k t ++ Z).set (182 + i) (.inl (1, 36, .inr (.inl (vp_updL (fun j => lN (t.1 i j)) j (lN x))))) = hc r s w c b d k (up2 t.1 i j x, t.2.1, t.2.2.1, t.2.2.2.1, t.2.2.2.2.1, t.2.2.2.2.2.1, t.2.2.2.2.2.2.1, t.2.2.2.2.2.2.2) ++ Z := by
  rw [up_l]
  rcases (show i = 0 ∨ i = 1 ∨ i = 2 ∨ i = 3 by omega) with rfl | rfl | rfl | rfl <;> rfl
set_option maxRecDepth 20000 in
theorem hg_su {j : Nat} (hj : j < 4) : (if j < 4 then some (183 + j) else none : Option Nat) = some (182 + j + 1) := by rw [if_pos hj]; congr 1; omega
set_option maxRecDepth 20000 in
theorem hr_ct {i : Nat} (hi : i < 4) : (hc r s w c b d k t ++ Z)[187 + i]? = some (.inl (1, 36, .inr (.inl (fun j => lN (t.2.1 i j))))) := by
  rcases (show i = 0 ∨ i = 1 ∨ i = 2 ∨ i = 3 by omega) with rfl | rfl | rfl | rfl <;> rfl
set_option maxRecDepth 20000 in
theorem hw_ct {i j x : Nat} (hi : i < 4) : (hc r s w c b d k t ++ Z).set (187 + i) (.inl (1, 36, .inr (.inl (vp_updL (fun j => lN (t.2.1 i j)) j (lN x))))) = hc r s w c b d k (t.1, up2 t.2.1 i j x, t.2.2.1, t.2.2.2.1, t.2.2.2.2.1, t.2.2.2.2.2.1, t.2.2.2.2.2.2.1, t.2.2.2.2.2.2.2) ++ Z := by
  rw [up_l]
  rcases (show i = 0 ∨ i = 1 ∨ i = 2 ∨ i = 3 by omega) with rfl | rfl | rfl | rfl <;> rfl
set_option maxRecDepth 20000 in
theorem hg_ct {j : Nat} (hj : j < 4) : (if j < 4 then some (188 + j) else none : Option Nat) = some (187 + j + 1) := by rw [if_pos hj]; congr 1; omega
set_option maxRecDepth 20000 in
theorem hr_be {i : Nat} (hi : i < 4) : (hc r s w c b d k t ++ Z)[192 + i]? = some (.inl (1, 36, .inr (.inl (fun j => lN (t.2.2.1 i j))))) := by
  rcases (show i = 0 ∨ i = 1 ∨ i = 2 ∨ i = 3 by omega) with rfl | rfl | rfl | rfl <;> rfl
set_option maxRecDepth 20000 in
theorem hw_be {i j x : Nat} (hi : i < 4) : (hc r s w c b d k t ++ Z).set (192 + i) (.inl (1, 36, .inr (.inl (vp_updL (fun j => lN (t.2.2.1 i j)) j (lN x))))) = hc r s w c b d k (t.1, t.2.1, up2 t.2.2.1 i j x, t.2.2.2.1, t.2.2.2.2.1, t.2.2.2.2.2.1, t.2.2.2.2.2.2.1, t.2.2.2.2.2.2.2) ++ Z := by
  rw [up_l]
  rcases (show i = 0 ∨ i = 1 ∨ i = 2 ∨ i = 3 by omega) with rfl | rfl | rfl | rfl <;> rfl
set_option maxRecDepth 20000 in
theorem hg_be {j : Nat} (hj : j < 4) : (if j < 4 then some (193 + j) else none : Option Nat) = some (192 + j + 1) := by rw [if_pos hj]; congr 1; omega
set_option maxRecDepth 20000 in
theorem hr_ha {i : Nat} (hi : i < 4) : (hc r s w c b d k t ++ Z)[197 + i]? = some (.inl (1, 36, .inr (.inl (fun j => lN (t.2.2.2.1 i j))))) := by
  rcases (show i = 0 ∨ i = 1 ∨ i = 2 ∨ i = 3 by omega) with rfl | rfl | rfl | rfl <;> rfl
set_option maxRecDepth 20000 in
theorem hw_ha {i j x : Nat} (hi : i < 4) : (hc r s w c b d k t ++ Z).set (197 + i) (.inl (1, 36, .inr (.inl (vp_updL (fun j => lN (t.2.2.2.1 i j)) j (lN x))))) = hc r s w c b d k (t.1, t.2.1, t.2.2.1, up2 t.2.2.2.1 i j x, t.2.2.2.2.1, t.2.2.2.2.2.1, t.2.2.2.2.2.2.1, t.2.2.2.2.2.2.2) ++ Z := by
  rw [up_l]
  rcases (show i = 0 ∨ i = 1 ∨ i = 2 ∨ i = 3 by omega) with rfl | rfl | rfl | rfl <;> rfl
set_option maxRecDepth 20000 in
theorem hg_ha {j : Nat} (hj : j < 4) : (if j < 4 then some (198 + j) else none : Option Nat) = some (197 + j + 1) := by rw [if_pos hj]; congr 1; omega
set_option maxRecDepth 20000 in
theorem hg_ends {j : Nat} (hj : j < 24) : (if j < 24 then some (97 + 3 * j) else none : Option Nat) = some (93 + 3 * (j + 1) + 1) := by rw [if_pos hj]; congr 1; omega
set_option maxRecDepth 20000 in
theorem hr_lo {i : Nat} (hi : i < 25) : (hc r s w c b d k t ++ Z)[93 + 3 * i]? = some (.inr (5, [.ref (94 + 3 * i + 1), .ref (95 + 3 * i + 1), .int (nI (b.1 i).2.2)])) := by
  rcases (show i = 0 ∨ i = 1 ∨ i = 2 ∨ i = 3 ∨ i = 4 ∨ i = 5 ∨ i = 6 ∨ i = 7 ∨ i = 8 ∨ i = 9 ∨ i = 10 ∨ i = 11 ∨ i = 12 ∨ i = 13 ∨ i = 14 ∨ i = 15 ∨ i = 16 ∨ i = 17 ∨ i = 18 ∨ i = 19 ∨ i = 20 ∨ i = 21 ∨ i = 22 ∨ i = 23 ∨ i = 24 by omega) with rfl | rfl | rfl | rfl | rfl | rfl | rfl | rfl | rfl | rfl | rfl | rfl | rfl | rfl | rfl | rfl | rfl | rfl | rfl | rfl | rfl | rfl | rfl | rfl | rfl <;> rfl
set_option maxRecDepth 20000 in
theorem hr_lw {i : Nat} (hi : i < 25) : (hc r s w c b d k t ++ Z)[94 + 3 * i]? = some (.inl (1, 10, .inr (.inl (fun j => lN ((b.1 i).1 j))))) := by
  rcases (show i = 0 ∨ i = 1 ∨ i = 2 ∨ i = 3 ∨ i = 4 ∨ i = 5 ∨ i = 6 ∨ i = 7 ∨ i = 8 ∨ i = 9 ∨ i = 10 ∨ i = 11 ∨ i = 12 ∨ i = 13 ∨ i = 14 ∨ i = 15 ∨ i = 16 ∨ i = 17 ∨ i = 18 ∨ i = 19 ∨ i = 20 ∨ i = 21 ∨ i = 22 ∨ i = 23 ∨ i = 24 by omega) with rfl | rfl | rfl | rfl | rfl | rfl | rfl | rfl | rfl | rfl | rfl | rfl | rfl | rfl | rfl | rfl | rfl | rfl | rfl | rfl | rfl | rfl | rfl | rfl | rfl <;> rfl
set_option maxRecDepth 20000 in
theorem hr_lt {i : Nat} (hi : i < 25) : (hc r s w c b d k t ++ Z)[95 + 3 * i]? = some (.inl (0, 10, .inl (fun j => nI ((b.1 i).2.1 j)))) := by
  rcases (show i = 0 ∨ i = 1 ∨ i = 2 ∨ i = 3 ∨ i = 4 ∨ i = 5 ∨ i = 6 ∨ i = 7 ∨ i = 8 ∨ i = 9 ∨ i = 10 ∨ i = 11 ∨ i = 12 ∨ i = 13 ∨ i = 14 ∨ i = 15 ∨ i = 16 ∨ i = 17 ∨ i = 18 ∨ i = 19 ∨ i = 20 ∨ i = 21 ∨ i = 22 ∨ i = 23 ∨ i = 24 by omega) with rfl | rfl | rfl | rfl | rfl | rfl | rfl | rfl | rfl | rfl | rfl | rfl | rfl | rfl | rfl | rfl | rfl | rfl | rfl | rfl | rfl | rfl | rfl | rfl | rfl <;> rfl
set_option maxRecDepth 20000 in
theorem hw_lo {i v : Nat} (hi : i < 25) : (hc r s w c b d k t ++ Z).set (93 + 3 * i) (.inr (5, [.ref (94 + 3 * i + 1), .ref (95 + 3 * i + 1), .int (nI v)])) = hc r s w c (va_up b.1 i ((b.1 i).1, (b.1 i).2.1, v), b.2) d k t ++ Z := by
  rcases (show i = 0 ∨ i = 1 ∨ i = 2 ∨ i = 3 ∨ i = 4 ∨ i = 5 ∨ i = 6 ∨ i = 7 ∨ i = 8 ∨ i = 9 ∨ i = 10 ∨ i = 11 ∨ i = 12 ∨ i = 13 ∨ i = 14 ∨ i = 15 ∨ i = 16 ∨ i = 17 ∨ i = 18 ∨ i = 19 ∨ i = 20 ∨ i = 21 ∨ i = 22 ∨ i = 23 ∨ i = 24 by omega) with rfl | rfl | rfl | rfl | rfl | rfl | rfl | rfl | rfl | rfl | rfl | rfl | rfl | rfl | rfl | rfl | rfl | rfl | rfl | rfl | rfl | rfl | rfl | rfl | rfl <;> rfl
set_option maxRecDepth 20000 in
theorem hw_lw {i j x : Nat} (hi : i < 25) : (hc r s w c b d k t ++ Z).set (94 + 3 * i) (.inl (1, 10, .inr (.inl (vp_updL (fun j => lN ((b.1 i).1 j)) j (lN x))))) = hc r s w c (va_up b.1 i (va_up (b.1 i).1 j x, (b.1 i).2.1, (b.1 i).2.2), b.2) d k t ++ Z := by
  rw [up_l]
  rcases (show i = 0 ∨ i = 1 ∨ i = 2 ∨ i = 3 ∨ i = 4 ∨ i = 5 ∨ i = 6 ∨ i = 7 ∨ i = 8 ∨ i = 9 ∨ i = 10 ∨ i = 11 ∨ i = 12 ∨ i = 13 ∨ i = 14 ∨ i = 15 ∨ i = 16 ∨ i = 17 ∨ i = 18 ∨ i = 19 ∨ i = 20 ∨ i = 21 ∨ i = 22 ∨ i = 23 ∨ i = 24 by omega) with rfl | rfl | rfl | rfl | rfl | rfl | rfl | rfl | rfl | rfl | rfl | rfl | rfl | rfl | rfl | rfl | rfl | rfl | rfl | rfl | rfl | rfl | rfl | rfl | rfl <;> rfl
set_option maxRecDepth 20000 in
theorem hw_lt {i j x : Nat} (hi : i < 25) : (hc r s w c b d k t ++ Z).set (95 + 3 * i) (.inl (0, 10, .inl (upd (fun j => nI ((b.1 i).2.1 j)) j (nI x)))) = hc r s w c (va_up b.1 i ((b.1 i).1, va_up (b.1 i).2.1 j x, (b.1 i).2.2), b.2) d k t ++ Z := by
  rw [up_i]
  rcases (show i = 0 ∨ i = 1 ∨ i = 2 ∨ i = 3 ∨ i = 4 ∨ i = 5 ∨ i = 6 ∨ i = 7 ∨ i = 8 ∨ i = 9 ∨ i = 10 ∨ i = 11 ∨ i = 12 ∨ i = 13 ∨ i = 14 ∨ i = 15 ∨ i = 16 ∨ i = 17 ∨ i = 18 ∨ i = 19 ∨ i = 20 ∨ i = 21 ∨ i = 22 ∨ i = 23 ∨ i = 24 by omega) with rfl | rfl | rfl | rfl | rfl | rfl | rfl | rfl | rfl | rfl | rfl | rfl | rfl | rfl | rfl | rfl | rfl | rfl | rfl | rfl | rfl | rfl | rfl | rfl | rfl <;> rfl
set_option maxRecDepth 20000 in
theorem hs_rl {v : Nat} : (hc r s w c b d k t ++ Z).set 1 (.inr (1, [.ref 3, .ref 4, .int (nI v)])) = hc (r.1, r.2.1, v) s w c b d k t ++ Z := rfl
set_option maxRecDepth 20000 in
theorem hs_rs {v : Nat → Int32} : (hc r s w c b d k t ++ Z).set 2 (.inl (0, 6, .inl v)) = hc (v, r.2.1, r.2.2) s w c b d k t ++ Z := rfl
set_option maxRecDepth 20000 in
theorem hs_rh {v : Nat → Int32} : (hc r s w c b d k t ++ Z).set 3 (.inl (0, 6, .inl v)) = hc (r.1, v, r.2.2) s w c b d k t ++ Z := rfl
set_option maxRecDepth 20000 in
theorem hs_sq {v : Nat} : (hc r s w c b d k t ++ Z).set 4 (.inr (2, [.ref 6, .ref 11, .int (nI v)])) = hc r (s.1, s.2.1, v) w c b d k t ++ Z := rfl
set_option maxRecDepth 20000 in
theorem hs_wk {v : Nat} : (hc r s w c b d k t ++ Z).set 15 (.inr (3, [.ref 2, .ref 5, .int (nI 2147483647), .ref 17, .ref 24, .ref 31, .ref 39, .ref 47, .int (nI v)])) = hc r s (w.1, w.2.1, w.2.2.1, w.2.2.2.1, w.2.2.2.2.1, v) c b d k t ++ Z := rfl
set_option maxRecDepth 20000 in
theorem hs_ck {v : Nat} : (hc r s w c b d k t ++ Z).set 53 (.inr (3, [.ref 2, .ref 5, .int (nI 1), .ref 55, .ref 62, .ref 69, .ref 77, .ref 85, .int (nI v)])) = hc r s w (c.1, c.2.1, c.2.2.1, c.2.2.2.1, c.2.2.2.2.1, v) b d k t ++ Z := rfl
set_option maxRecDepth 20000 in
theorem hs_bk {v : Nat} : (hc r s w c b d k t ++ Z).set 91 (.inr (4, [.ref 2, .ref 5, .ref 16, .ref 93, .ref 94, .int (nI v)])) = hc r s w c (b.1, v) d k t ++ Z := rfl
set_option maxRecDepth 20000 in
theorem hs_d {x1 x2 x3 x4 x5 x6 : Nat} : (hc r s w c b d k t ++ Z).set 168 (.inr (6, [.ref 2, .ref 5, .ref 16, .long (lN x1), .int (nI x2), .int (nI x3), .long (lN x4), .int (nI x5), .int (nI x6)])) = hc r s w c b (x1, x2, x3, x4, x5, x6) k t ++ Z := rfl
set_option maxRecDepth 20000 in
theorem hs_kc {v : Nat} : (hc r s w c b d k t ++ Z).set 169 (.inr (7, [.ref 171, .ref 176, .int (nI v)])) = hc r s w c b d (k.1, k.2.1, v) t ++ Z := rfl
set_option maxRecDepth 20000 in
theorem hs_t {v x : Nat} : (hc r s w c b d k t ++ Z).set 180 (.inr (8, [.ref 2, .ref 170, .ref 182, .ref 187, .ref 192, .ref 197, .ref 202, .ref 203, .int (nI v), .int (nI x)])) = hc r s w c b d k (t.1, t.2.1, t.2.2.1, t.2.2.2.1, t.2.2.2.2.1, t.2.2.2.2.2.1, v, x) ++ Z := rfl
set_option maxRecDepth 20000 in
theorem hs_twk {j x : Nat} : (hc r s w c b d k t ++ Z).set 201 (.inl (0, 7, .inl (upd (fun j => nI (t.2.2.2.2.1 j)) j (nI x)))) = hc r s w c b d k (t.1, t.2.1, t.2.2.1, t.2.2.2.1, va_up t.2.2.2.2.1 j x, t.2.2.2.2.2.1, t.2.2.2.2.2.2.1, t.2.2.2.2.2.2.2) ++ Z := by rw [up_i]; rfl
set_option maxRecDepth 20000 in
theorem hs_twp {j x : Nat} : (hc r s w c b d k t ++ Z).set 202 (.inl (0, 7, .inl (upd (fun j => nI (t.2.2.2.2.2.1 j)) j (nI x)))) = hc r s w c b d k (t.1, t.2.1, t.2.2.1, t.2.2.2.1, t.2.2.2.2.1, va_up t.2.2.2.2.2.1 j x, t.2.2.2.2.2.2.1, t.2.2.2.2.2.2.2) ++ Z := by rw [up_i]; rfl
variable {ms mk : hA} {mp : hP} {mw : Nat → Int32} {mc : hC} {md : Nat × (Nat → Int32)} {mt : hF} {me : hE}
set_option maxRecDepth 20000 in
theorem mq_203 : (hc r s w c b d k t ++ hm ms mk mp mw mc md mt me)[203]? = some (.inr (9, [.int (nI ms.1), .ref 205, .ref 206, .int (nI mk.1), .ref 207, .ref 208, .int (nI mp.1), .ref 209, .ref 210, .int (nI mc.1), .int (nI md.1), .ref 211, .long (lN mc.2.1), .int (nI mc.2.2.1), .ref 212, .ref 213, .ref 214, .int (nI mc.2.2.2.2.2.2.1), .ref 215, .ref 216, .ref 217, .ref 218, .ref 219, .ref 220, .ref 221, .ref 222, .ref 223])) := rfl
set_option maxRecDepth 20000 in
theorem mq_204 : (hc r s w c b d k t ++ hm ms mk mp mw mc md mt me)[204]? = some (.inl (0, 36, .inl (fun j => nI (ms.2.1 j)))) := rfl
set_option maxRecDepth 20000 in
theorem mq_205 : (hc r s w c b d k t ++ hm ms mk mp mw mc md mt me)[205]? = some (.inl (0, 16, .inl (fun j => nI (ms.2.2 j)))) := rfl
set_option maxRecDepth 20000 in
theorem mq_206 : (hc r s w c b d k t ++ hm ms mk mp mw mc md mt me)[206]? = some (.inl (0, 64, .inl (fun j => nI (mk.2.1 j)))) := rfl
set_option maxRecDepth 20000 in
theorem mq_207 : (hc r s w c b d k t ++ hm ms mk mp mw mc md mt me)[207]? = some (.inl (0, 16, .inl (fun j => nI (mk.2.2 j)))) := rfl
set_option maxRecDepth 20000 in
theorem mq_208 : (hc r s w c b d k t ++ hm ms mk mp mw mc md mt me)[208]? = some (.inl (0, 6, .inl mp.2.1)) := rfl
set_option maxRecDepth 20000 in
theorem mq_209 : (hc r s w c b d k t ++ hm ms mk mp mw mc md mt me)[209]? = some (.inl (0, 6, .inl mp.2.2)) := rfl
set_option maxRecDepth 20000 in
theorem mq_210 : (hc r s w c b d k t ++ hm ms mk mp mw mc md mt me)[210]? = some (.inl (0, 7, .inl mw)) := rfl
set_option maxRecDepth 20000 in
theorem mq_211 : (hc r s w c b d k t ++ hm ms mk mp mw mc md mt me)[211]? = some (.inl (1, 24, .inr (.inl (fun j => lN (mc.2.2.2.1 j))))) := rfl
set_option maxRecDepth 20000 in
theorem mq_212 : (hc r s w c b d k t ++ hm ms mk mp mw mc md mt me)[212]? = some (.inl (1, 24, .inr (.inl (fun j => lN (mc.2.2.2.2.1 j))))) := rfl
set_option maxRecDepth 20000 in
theorem mq_213 : (hc r s w c b d k t ++ hm ms mk mp mw mc md mt me)[213]? = some (.inl (1, 96, .inr (.inl (fun j => lN (mc.2.2.2.2.2.1 j))))) := rfl
set_option maxRecDepth 20000 in
theorem mq_214 : (hc r s w c b d k t ++ hm ms mk mp mw mc md mt me)[214]? = some (.inl (1, 11, .inr (.inl (fun j => lN (mc.2.2.2.2.2.2.2.1 j))))) := rfl
set_option maxRecDepth 20000 in
theorem mq_215 : (hc r s w c b d k t ++ hm ms mk mp mw mc md mt me)[215]? = some (.inl (0, 66, .inl mc.2.2.2.2.2.2.2.2)) := rfl
set_option maxRecDepth 20000 in
theorem mq_216 : (hc r s w c b d k t ++ hm ms mk mp mw mc md mt me)[216]? = some (.inl (0, 6, .inl md.2)) := rfl
set_option maxRecDepth 20000 in
theorem mq_217 : (hc r s w c b d k t ++ hm ms mk mp mw mc md mt me)[217]? = some (.inl (1, 144, .inr (.inl (fun j => lN (mt.1 j))))) := rfl
set_option maxRecDepth 20000 in
theorem mq_218 : (hc r s w c b d k t ++ hm ms mk mp mw mc md mt me)[218]? = some (.inl (1, 144, .inr (.inl (fun j => lN (mt.2.1 j))))) := rfl
set_option maxRecDepth 20000 in
theorem mq_219 : (hc r s w c b d k t ++ hm ms mk mp mw mc md mt me)[219]? = some (.inl (1, 144, .inr (.inl (fun j => lN (mt.2.2 j))))) := rfl
set_option maxRecDepth 20000 in
theorem mq_220 : (hc r s w c b d k t ++ hm ms mk mp mw mc md mt me)[220]? = some (.inl (0, 12, .inl me.1)) := rfl
set_option maxRecDepth 20000 in
theorem mq_221 : (hc r s w c b d k t ++ hm ms mk mp mw mc md mt me)[221]? = some (.inl (0, 12, .inl me.2.1)) := rfl
set_option maxRecDepth 20000 in
theorem mq_222 : (hc r s w c b d k t ++ hm ms mk mp mw mc md mt me)[222]? = some (.inl (0, 12, .inl me.2.2)) := rfl
set_option maxRecDepth 20000 in
theorem mo_set {v0 v1 v2 v7 x3 x4 x5 x6 : Nat} : (hc r s w c b d k t ++ hm ms mk mp mw mc md mt me).set 203 (.inr (9, [.int (nI v0), .ref 205, .ref 206, .int (nI v1), .ref 207, .ref 208, .int (nI v2), .ref 209, .ref 210, .int (nI x3), .int (nI x4), .ref 211, .long (lN x5), .int (nI x6), .ref 212, .ref 213, .ref 214, .int (nI v7), .ref 215, .ref 216, .ref 217, .ref 218, .ref 219, .ref 220, .ref 221, .ref 222, .ref 223])) = hc r s w c b d k t ++ hm (v0, ms.2) (v1, mk.2) (v2, mp.2) mw (x3, x5, x6, mc.2.2.2.1, mc.2.2.2.2.1, mc.2.2.2.2.2.1, v7, mc.2.2.2.2.2.2.2) (x4, md.2) mt me := rfl
set_option maxRecDepth 20000 in
theorem ma_weights {j x : Nat} : (hc r s w c b d k t ++ hm ms mk mp mw mc md mt me).set 204 (.inl (0, 36, .inl (upd (fun j => nI (ms.2.1 j)) j (nI x)))) = hc r s w c b d k t ++ hm (ms.1, va_up ms.2.1 j x, ms.2.2) mk mp mw mc md mt me := by rw [up_i]; rfl
set_option maxRecDepth 20000 in
theorem ma_moves {j x : Nat} : (hc r s w c b d k t ++ hm ms mk mp mw mc md mt me).set 205 (.inl (0, 16, .inl (upd (fun j => nI (ms.2.2 j)) j (nI x)))) = hc r s w c b d k t ++ hm (ms.1, ms.2.1, va_up ms.2.2 j x) mk mp mw mc md mt me := by rw [up_i]; rfl
set_option maxRecDepth 20000 in
theorem ma_rules {j x : Nat} : (hc r s w c b d k t ++ hm ms mk mp mw mc md mt me).set 206 (.inl (0, 64, .inl (upd (fun j => nI (mk.2.1 j)) j (nI x)))) = hc r s w c b d k t ++ hm ms (mk.1, va_up mk.2.1 j x, mk.2.2) mp mw mc md mt me := by rw [up_i]; rfl
set_option maxRecDepth 20000 in
theorem ma_leaves {j x : Nat} : (hc r s w c b d k t ++ hm ms mk mp mw mc md mt me).set 207 (.inl (0, 16, .inl (upd (fun j => nI (mk.2.2 j)) j (nI x)))) = hc r s w c b d k t ++ hm ms (mk.1, mk.2.1, va_up mk.2.2 j x) mp mw mc md mt me := by rw [up_i]; rfl
set_option maxRecDepth 20000 in
theorem ma_signs {f : Nat → Int32} : (hc r s w c b d k t ++ hm ms mk mp mw mc md mt me).set 208 (.inl (0, 6, .inl f)) = hc r s w c b d k t ++ hm ms mk (mp.1, f, mp.2.2) mw mc md mt me := rfl
set_option maxRecDepth 20000 in
theorem ma_held {f : Nat → Int32} : (hc r s w c b d k t ++ hm ms mk mp mw mc md mt me).set 209 (.inl (0, 6, .inl f)) = hc r s w c b d k t ++ hm ms mk (mp.1, mp.2.1, f) mw mc md mt me := rfl
set_option maxRecDepth 20000 in
theorem ma_way {f : Nat → Int32} : (hc r s w c b d k t ++ hm ms mk mp mw mc md mt me).set 210 (.inl (0, 7, .inl f)) = hc r s w c b d k t ++ hm ms mk mp f mc md mt me := rfl
set_option maxRecDepth 20000 in
theorem ma_shares {j x : Nat} : (hc r s w c b d k t ++ hm ms mk mp mw mc md mt me).set 211 (.inl (1, 24, .inr (.inl (vp_updL (fun j => lN (mc.2.2.2.1 j)) j (lN x))))) = hc r s w c b d k t ++ hm ms mk mp mw (mc.1, mc.2.1, mc.2.2.1, va_up mc.2.2.2.1 j x, mc.2.2.2.2.1, mc.2.2.2.2.2.1, mc.2.2.2.2.2.2.1, mc.2.2.2.2.2.2.2.1, mc.2.2.2.2.2.2.2.2) md mt me := by rw [up_l]; rfl
set_option maxRecDepth 20000 in
theorem ma_begins {j x : Nat} : (hc r s w c b d k t ++ hm ms mk mp mw mc md mt me).set 212 (.inl (1, 24, .inr (.inl (vp_updL (fun j => lN (mc.2.2.2.2.1 j)) j (lN x))))) = hc r s w c b d k t ++ hm ms mk mp mw (mc.1, mc.2.1, mc.2.2.1, mc.2.2.2.1, va_up mc.2.2.2.2.1 j x, mc.2.2.2.2.2.1, mc.2.2.2.2.2.2.1, mc.2.2.2.2.2.2.2.1, mc.2.2.2.2.2.2.2.2) md mt me := by rw [up_l]; rfl
set_option maxRecDepth 20000 in
theorem ma_pairs {j x : Nat} : (hc r s w c b d k t ++ hm ms mk mp mw mc md mt me).set 213 (.inl (1, 96, .inr (.inl (vp_updL (fun j => lN (mc.2.2.2.2.2.1 j)) j (lN x))))) = hc r s w c b d k t ++ hm ms mk mp mw (mc.1, mc.2.1, mc.2.2.1, mc.2.2.2.1, mc.2.2.2.2.1, va_up mc.2.2.2.2.2.1 j x, mc.2.2.2.2.2.2.1, mc.2.2.2.2.2.2.2.1, mc.2.2.2.2.2.2.2.2) md mt me := by rw [up_l]; rfl
set_option maxRecDepth 20000 in
theorem ma_keptWeight {j x : Nat} : (hc r s w c b d k t ++ hm ms mk mp mw mc md mt me).set 214 (.inl (1, 11, .inr (.inl (vp_updL (fun j => lN (mc.2.2.2.2.2.2.2.1 j)) j (lN x))))) = hc r s w c b d k t ++ hm ms mk mp mw (mc.1, mc.2.1, mc.2.2.1, mc.2.2.2.1, mc.2.2.2.2.1, mc.2.2.2.2.2.1, mc.2.2.2.2.2.2.1, va_up mc.2.2.2.2.2.2.2.1 j x, mc.2.2.2.2.2.2.2.2) md mt me := by rw [up_l]; rfl
set_option maxRecDepth 20000 in
theorem ma_keptWay {f : Nat → Int32} : (hc r s w c b d k t ++ hm ms mk mp mw mc md mt me).set 215 (.inl (0, 66, .inl f)) = hc r s w c b d k t ++ hm ms mk mp mw (mc.1, mc.2.1, mc.2.2.1, mc.2.2.2.1, mc.2.2.2.2.1, mc.2.2.2.2.2.1, mc.2.2.2.2.2.2.1, mc.2.2.2.2.2.2.2.1, f) md mt me := rfl
set_option maxRecDepth 20000 in
theorem ma_drawn {f : Nat → Int32} : (hc r s w c b d k t ++ hm ms mk mp mw mc md mt me).set 216 (.inl (0, 6, .inl f)) = hc r s w c b d k t ++ hm ms mk mp mw mc (md.1, f) mt me := rfl
set_option maxRecDepth 20000 in
theorem ma_sums {j x : Nat} : (hc r s w c b d k t ++ hm ms mk mp mw mc md mt me).set 217 (.inl (1, 144, .inr (.inl (vp_updL (fun j => lN (mt.1 j)) j (lN x))))) = hc r s w c b d k t ++ hm ms mk mp mw mc md (va_up mt.1 j x, mt.2.1, mt.2.2) me := by rw [up_l]; rfl
set_option maxRecDepth 20000 in
theorem ma_counts {j x : Nat} : (hc r s w c b d k t ++ hm ms mk mp mw mc md mt me).set 218 (.inl (1, 144, .inr (.inl (vp_updL (fun j => lN (mt.2.1 j)) j (lN x))))) = hc r s w c b d k t ++ hm ms mk mp mw mc md (mt.1, va_up mt.2.1 j x, mt.2.2) me := by rw [up_l]; rfl
set_option maxRecDepth 20000 in
theorem ma_bests {j x : Nat} : (hc r s w c b d k t ++ hm ms mk mp mw mc md mt me).set 219 (.inl (1, 144, .inr (.inl (vp_updL (fun j => lN (mt.2.2 j)) j (lN x))))) = hc r s w c b d k t ++ hm ms mk mp mw mc md (mt.1, mt.2.1, va_up mt.2.2 j x) me := by rw [up_l]; rfl
set_option maxRecDepth 20000 in
theorem ma_tellA {f : Nat → Int32} : (hc r s w c b d k t ++ hm ms mk mp mw mc md mt me).set 220 (.inl (0, 12, .inl f)) = hc r s w c b d k t ++ hm ms mk mp mw mc md mt (f, me.2.1, me.2.2) := rfl
set_option maxRecDepth 20000 in
theorem ma_tellB {f : Nat → Int32} : (hc r s w c b d k t ++ hm ms mk mp mw mc md mt me).set 221 (.inl (0, 12, .inl f)) = hc r s w c b d k t ++ hm ms mk mp mw mc md mt (me.1, f, me.2.2) := rfl
set_option maxRecDepth 20000 in
theorem ma_tellK {f : Nat → Int32} : (hc r s w c b d k t ++ hm ms mk mp mw mc md mt me).set 222 (.inl (0, 12, .inl f)) = hc r s w c b d k t ++ hm ms mk mp mw mc md mt (me.1, me.2.1, f) := rfl
end HQ
end
section
section NR
variable {E : ab_E} {l : Launch} {G : Heap → List Loc → Nat → Nat → JFrame → Prop} {m : MethodId} {cc : ByteArray} {nL : Nat} {own : String} {ini : Bool} {ret : Option FieldType} {fr lo mc ms : Nat} {Post : Option (Option Value → List ab_C → Prop)} {ce sl pc : Nat} {lv : List (Nat × Value)} {st : List Value} {h : List ab_C}
theorem a_icmp_eqN (X : ab_X E l G m cc nL own ini ret fr lo mc ms Post) {a b : Nat} {off : Int} (tgt : Nat) (ha : a < 2 ^ 31) (hb : b < 2 ^ 31) (d : decode cc pc = .ok (.if_icmp .eq off, 3)) (ht : (pc : Int) + off = (tgt : Int)) (kt : a = b → ab_R E G m nL ce sl tgt lv st h) (kf : a ≠ b → ab_R E G m nL ce sl (pc + 3) lv st h) : ab_R E G m nL ce sl pc lv (.int (nI b) :: .int (nI a) :: st) h := a_icmp_eq X tgt d ht (fun q => kt ((nI_eq ha hb).mp q)) (fun q => kf (fun e => q ((nI_eq ha hb).mpr e)))
theorem a_icmp_neN (X : ab_X E l G m cc nL own ini ret fr lo mc ms Post) {a b : Nat} {off : Int} (tgt : Nat) (ha : a < 2 ^ 31) (hb : b < 2 ^ 31) (d : decode cc pc = .ok (.if_icmp .ne off, 3)) (ht : (pc : Int) + off = (tgt : Int)) (kt : a ≠ b → ab_R E G m nL ce sl tgt lv st h) (kf : a = b → ab_R E G m nL ce sl (pc + 3) lv st h) : ab_R E G m nL ce sl pc lv (.int (nI b) :: .int (nI a) :: st) h := a_icmp_ne X tgt d ht (fun q => kt (fun e => q ((nI_eq ha hb).mpr e))) (fun q => kf ((nI_eq ha hb).mp q))
theorem a_icmp_ltN (X : ab_X E l G m cc nL own ini ret fr lo mc ms Post) {a b : Nat} {off : Int} (tgt : Nat) (ha : a < 2 ^ 31) (hb : b < 2 ^ 31) (d : decode cc pc = .ok (.if_icmp .lt off, 3)) (ht : (pc : Int) + off = (tgt : Int)) (kt : a < b → ab_R E G m nL ce sl tgt lv st h) (kf : b ≤ a → ab_R E G m nL ce sl (pc + 3) lv st h) : ab_R E G m nL ce sl pc lv (.int (nI b) :: .int (nI a) :: st) h := a_icmp_lt X tgt d ht (fun q => kt ((nI_ltI ha hb).mp q)) (fun q => kf (Nat.not_lt.mp (fun e => q ((nI_ltI ha hb).mpr e))))
theorem a_icmp_geN (X : ab_X E l G m cc nL own ini ret fr lo mc ms Post) {a b : Nat} {off : Int} (tgt : Nat) (ha : a < 2 ^ 31) (hb : b < 2 ^ 31) (d : decode cc pc = .ok (.if_icmp .ge off, 3)) (ht : (pc : Int) + off = (tgt : Int)) (kt : b ≤ a → ab_R E G m nL ce sl tgt lv st h) (kf : a < b → ab_R E G m nL ce sl (pc + 3) lv st h) : ab_R E G m nL ce sl pc lv (.int (nI b) :: .int (nI a) :: st) h := a_icmp_ge X tgt d ht (fun q => kt ((nI_leI hb ha).mp q)) (fun q => kf (Nat.not_le.mp (fun e => q ((nI_leI hb ha).mpr e))))
theorem a_icmp_gtN (X : ab_X E l G m cc nL own ini ret fr lo mc ms Post) {a b : Nat} {off : Int} (tgt : Nat) (ha : a < 2 ^ 31) (hb : b < 2 ^ 31) (d : decode cc pc = .ok (.if_icmp .gt off, 3)) (ht : (pc : Int) + off = (tgt : Int)) (kt : b < a → ab_R E G m nL ce sl tgt lv st h) (kf : a ≤ b → ab_R E G m nL ce sl (pc + 3) lv st h) : ab_R E G m nL ce sl pc lv (.int (nI b) :: .int (nI a) :: st) h := a_icmp_gt X tgt d ht (fun q => kt ((nI_ltI hb ha).mp q)) (fun q => kf (Nat.not_lt.mp (fun e => q ((nI_ltI hb ha).mpr e))))
theorem a_icmp_leN (X : ab_X E l G m cc nL own ini ret fr lo mc ms Post) {a b : Nat} {off : Int} (tgt : Nat) (ha : a < 2 ^ 31) (hb : b < 2 ^ 31) (d : decode cc pc = .ok (.if_icmp .le off, 3)) (ht : (pc : Int) + off = (tgt : Int)) (kt : a ≤ b → ab_R E G m nL ce sl tgt lv st h) (kf : b < a → ab_R E G m nL ce sl (pc + 3) lv st h) : ab_R E G m nL ce sl pc lv (.int (nI b) :: .int (nI a) :: st) h := a_icmp_le X tgt d ht (fun q => kt ((nI_leI ha hb).mp q)) (fun q => kf (Nat.not_le.mp (fun e => q ((nI_leI ha hb).mpr e))))
theorem a_if_eqN (X : ab_X E l G m cc nL own ini ret fr lo mc ms Post) {a : Nat} {off : Int} (tgt : Nat) (ha : a < 2 ^ 31) (d : decode cc pc = .ok (.ifCond .eq off, 3)) (ht : (pc : Int) + off = (tgt : Int)) (kt : a = 0 → ab_R E G m nL ce sl tgt lv st h) (kf : 0 < a → ab_R E G m nL ce sl (pc + 3) lv st h) : ab_R E G m nL ce sl pc lv (.int (nI a) :: st) h := a_if_eq X tgt d ht (fun q => kt ((nI_eq ha (by decide)).mp q)) (fun q => kf (Nat.pos_of_ne_zero (fun e => q ((nI_eq ha (by decide)).mpr e))))
theorem a_if_neN (X : ab_X E l G m cc nL own ini ret fr lo mc ms Post) {a : Nat} {off : Int} (tgt : Nat) (ha : a < 2 ^ 31) (d : decode cc pc = .ok (.ifCond .ne off, 3)) (ht : (pc : Int) + off = (tgt : Int)) (kt : 0 < a → ab_R E G m nL ce sl tgt lv st h) (kf : a = 0 → ab_R E G m nL ce sl (pc + 3) lv st h) : ab_R E G m nL ce sl pc lv (.int (nI a) :: st) h := a_if_ne X tgt d ht (fun q => kt (Nat.pos_of_ne_zero (fun e => q ((nI_eq ha (by decide)).mpr e)))) (fun q => kf ((nI_eq ha (by decide)).mp q))
theorem a_if_gtN (X : ab_X E l G m cc nL own ini ret fr lo mc ms Post) {a : Nat} {off : Int} (tgt : Nat) (ha : a < 2 ^ 31) (d : decode cc pc = .ok (.ifCond .gt off, 3)) (ht : (pc : Int) + off = (tgt : Int)) (kt : 0 < a → ab_R E G m nL ce sl tgt lv st h) (kf : a = 0 → ab_R E G m nL ce sl (pc + 3) lv st h) : ab_R E G m nL ce sl pc lv (.int (nI a) :: st) h := a_if_gt X tgt d ht (fun q => kt ((nI_ltI (by decide) ha).mp q)) (fun q => kf (Nat.eq_zero_of_not_pos (fun e => q ((nI_ltI (by decide) ha).mpr e))))
theorem a_if_leN (X : ab_X E l G m cc nL own ini ret fr lo mc ms Post) {a : Nat} {off : Int} (tgt : Nat) (ha : a < 2 ^ 31) (d : decode cc pc = .ok (.ifCond .le off, 3)) (ht : (pc : Int) + off = (tgt : Int)) (kt : a = 0 → ab_R E G m nL ce sl tgt lv st h) (kf : 0 < a → ab_R E G m nL ce sl (pc + 3) lv st h) : ab_R E G m nL ce sl pc lv (.int (nI a) :: st) h := a_if_le X tgt d ht (fun q => kt (Nat.le_zero.mp ((nI_leI ha (by decide)).mp q))) (fun q => kf (Nat.pos_of_ne_zero (fun e => q ((nI_leI ha (by decide)).mpr (Nat.le_of_eq e)))))
theorem a_if_ltN (X : ab_X E l G m cc nL own ini ret fr lo mc ms Post) {a : Nat} {off : Int} (tgt : Nat) (ha : a < 2 ^ 31) (d : decode cc pc = .ok (.ifCond .lt off, 3)) (ht : (pc : Int) + off = (tgt : Int)) (kf : ab_R E G m nL ce sl (pc + 3) lv st h) : ab_R E G m nL ce sl pc lv (.int (nI a) :: st) h := a_if_lt X tgt d ht (fun q => absurd q (nI_pos ha)) (fun _ => kf)
theorem a_if_geN (X : ab_X E l G m cc nL own ini ret fr lo mc ms Post) {a : Nat} {off : Int} (tgt : Nat) (ha : a < 2 ^ 31) (d : decode cc pc = .ok (.ifCond .ge off, 3)) (ht : (pc : Int) + off = (tgt : Int)) (kt : ab_R E G m nL ce sl tgt lv st h) : ab_R E G m nL ce sl pc lv (.int (nI a) :: st) h := a_if_ge X tgt d ht (fun _ => kt) (fun q => absurd (nI_pos' ha) q)
end NR
end
section
set_option maxHeartbeats 4000000 in
set_option maxRecDepth 20000 in
theorem c_Ro_has_y {E : ab_E} {l : Launch} {r : hR} {s : hS} {w c : hW} {b : hB} {d : hD} {k : hK} {t : hT} {Z : List ab_C} {j : Nat} (hj : j < r.2.2) (hl : r.2.2 ≤ 6) : ab_Con E l y_Ro_has b_Ro_has 2 (some .boolean) 0 0 [.ref 2, .int (nI j)] (hc r s w c b d k t ++ Z) 0 0 (fun v h1 => v = some (.int (nI 1)) ∧ h1 = hc r s w c b d k t ++ Z) := by
  refine ab_con (own := "HiddenRows$Row") (ini := false) (by decide) (fun h => by cases h) rfl (Nat.le_of_ble_eq_true rfl) ?_
  intro G m X
  show ab_R E G m 2 0 0 0 [(0, .ref 2), (1, .int (nI j))] [] (hc r s w c b d k t ++ Z)
  refine a_iload_n X 1 d_Ro_has_0 rfl rfl ?_
  refine a_if_ltN X 22 (by omega) d_Ro_has_1 (by decide) ?_
  refine a_iload_n X 1 d_Ro_has_4 rfl rfl ?_
  refine a_aload_n X 0 d_Ro_has_5 rfl rfl ?_
  refine a_get X ff_Ro_18 d_Ro_has_6 hq_1 rfl ?_
  refine a_icmp_geN X 22 (by omega) (by omega) d_Ro_has_9 (by decide) (fun c9 => ?_) (fun c9 => ?_)
  ·
    exfalso
    omega
  ·
    refine a_iload_n X 1 d_Ro_has_12 rfl rfl ?_
    refine a_bipush X (v := nI 6) d_Ro_has_13 (by decide) ?_
    refine a_icmp_geN X 22 (by omega) (by omega) d_Ro_has_15 (by decide) (fun c15 => ?_) (fun c15 => ?_)
    ·
      exfalso
      omega
    ·
      refine a_iconst X (v := nI 1) d_Ro_has_18 (by decide) ?_
      refine a_goto X 23 d_Ro_has_19 (by decide) ?_
      exact a_zret X rfl d_Ro_has_23 (Nat.le_refl _) (Nat.le_refl _) ⟨rfl, rfl⟩
set_option maxHeartbeats 4000000 in
set_option maxRecDepth 20000 in
theorem c_Ro_has_n {E : ab_E} {l : Launch} {r : hR} {s : hS} {w c : hW} {b : hB} {d : hD} {k : hK} {t : hT} {Z : List ab_C} {x : Int32} (hx : x < 0 ∨ nI r.2.2 ≤ x) : ab_Con E l y_Ro_has b_Ro_has 2 (some .boolean) 0 0 [.ref 2, .int x] (hc r s w c b d k t ++ Z) 0 0 (fun v h1 => v = some (.int (nI 0)) ∧ h1 = hc r s w c b d k t ++ Z) := by
  refine ab_con (own := "HiddenRows$Row") (ini := false) (by decide) (fun h => by cases h) rfl (Nat.le_of_ble_eq_true rfl) ?_
  intro G m X
  show ab_R E G m 2 0 0 0 [(0, .ref 2), (1, .int x)] [] (hc r s w c b d k t ++ Z)
  refine a_iload_n X 1 d_Ro_has_0 rfl rfl ?_
  refine a_if_lt X 22 d_Ro_has_1 (by decide) (fun c1 => ?_) (fun c1 => ?_)
  ·
    refine a_iconst X (v := nI 0) d_Ro_has_22 (by decide) ?_
    exact a_zret X rfl d_Ro_has_23 (Nat.le_refl _) (Nat.le_refl _) ⟨rfl, rfl⟩
  ·
    refine a_iload_n X 1 d_Ro_has_4 rfl rfl ?_
    refine a_aload_n X 0 d_Ro_has_5 rfl rfl ?_
    refine a_get X ff_Ro_18 d_Ro_has_6 hq_1 rfl ?_
    refine a_icmp_ge X 22 d_Ro_has_9 (by decide) (fun c9 => ?_) (fun c9 => ?_)
    ·
      refine a_iconst X (v := nI 0) d_Ro_has_22 (by decide) ?_
      exact a_zret X rfl d_Ro_has_23 (Nat.le_refl _) (Nat.le_refl _) ⟨rfl, rfl⟩
    ·
      exfalso
      rcases hx with q | q
      · exact c1 q
      · exact c9 q
set_option maxHeartbeats 4000000 in
set_option maxRecDepth 20000 in
theorem c_St_has_y {E : ab_E} {l : Launch} {r : hR} {s : hS} {w c : hW} {b : hB} {d : hD} {k : hK} {t : hT} {Z : List ab_C} {j : Nat} (hj : j < s.2.2) (hl : s.2.2 ≤ 4) : ab_Con E l y_St_has b_St_has 2 (some .boolean) 0 0 [.ref 5, .int (nI j)] (hc r s w c b d k t ++ Z) 0 0 (fun v h1 => v = some (.int (nI 1)) ∧ h1 = hc r s w c b d k t ++ Z) := by
  refine ab_con (own := "HiddenRows$States") (ini := false) (by decide) (fun h => by cases h) rfl (Nat.le_of_ble_eq_true rfl) ?_
  intro G m X
  show ab_R E G m 2 0 0 0 [(0, .ref 5), (1, .int (nI j))] [] (hc r s w c b d k t ++ Z)
  refine a_iload_n X 1 d_St_has_0 rfl rfl ?_
  refine a_if_ltN X 21 (by omega) d_St_has_1 (by decide) ?_
  refine a_iload_n X 1 d_St_has_4 rfl rfl ?_
  refine a_aload_n X 0 d_St_has_5 rfl rfl ?_
  refine a_get X ff_St_19 d_St_has_6 hq_4 rfl ?_
  refine a_icmp_geN X 21 (by omega) (by omega) d_St_has_9 (by decide) (fun c9 => ?_) (fun c9 => ?_)
  ·
    exfalso
    omega
  ·
    refine a_iload_n X 1 d_St_has_12 rfl rfl ?_
    refine a_iconst X (v := nI 4) d_St_has_13 (by decide) ?_
    refine a_icmp_geN X 21 (by omega) (by omega) d_St_has_14 (by decide) (fun c14 => ?_) (fun c14 => ?_)
    ·
      exfalso
      omega
    ·
      refine a_iconst X (v := nI 1) d_St_has_17 (by decide) ?_
      refine a_goto X 22 d_St_has_18 (by decide) ?_
      exact a_zret X rfl d_St_has_22 (Nat.le_refl _) (Nat.le_refl _) ⟨rfl, rfl⟩
set_option maxHeartbeats 4000000 in
set_option maxRecDepth 20000 in
theorem c_St_has_n {E : ab_E} {l : Launch} {r : hR} {s : hS} {w c : hW} {b : hB} {d : hD} {k : hK} {t : hT} {Z : List ab_C} {x : Int32} (hx : x < 0 ∨ nI s.2.2 ≤ x) : ab_Con E l y_St_has b_St_has 2 (some .boolean) 0 0 [.ref 5, .int x] (hc r s w c b d k t ++ Z) 0 0 (fun v h1 => v = some (.int (nI 0)) ∧ h1 = hc r s w c b d k t ++ Z) := by
  refine ab_con (own := "HiddenRows$States") (ini := false) (by decide) (fun h => by cases h) rfl (Nat.le_of_ble_eq_true rfl) ?_
  intro G m X
  show ab_R E G m 2 0 0 0 [(0, .ref 5), (1, .int x)] [] (hc r s w c b d k t ++ Z)
  refine a_iload_n X 1 d_St_has_0 rfl rfl ?_
  refine a_if_lt X 21 d_St_has_1 (by decide) (fun c1 => ?_) (fun c1 => ?_)
  ·
    refine a_iconst X (v := nI 0) d_St_has_21 (by decide) ?_
    exact a_zret X rfl d_St_has_22 (Nat.le_refl _) (Nat.le_refl _) ⟨rfl, rfl⟩
  ·
    refine a_iload_n X 1 d_St_has_4 rfl rfl ?_
    refine a_aload_n X 0 d_St_has_5 rfl rfl ?_
    refine a_get X ff_St_19 d_St_has_6 hq_4 rfl ?_
    refine a_icmp_ge X 21 d_St_has_9 (by decide) (fun c9 => ?_) (fun c9 => ?_)
    ·
      refine a_iconst X (v := nI 0) d_St_has_21 (by decide) ?_
      exact a_zret X rfl d_St_has_22 (Nat.le_refl _) (Nat.le_refl _) ⟨rfl, rfl⟩
    ·
      exfalso
      rcases hx with q | q
      · exact c1 q
      · exact c9 q
set_option maxHeartbeats 4000000 in
set_option maxRecDepth 20000 in
theorem c_Ki_has_y {E : ab_E} {l : Launch} {r : hR} {s : hS} {w c : hW} {b : hB} {d : hD} {k : hK} {t : hT} {Z : List ab_C} {j : Nat} (hj : j < k.2.2) (hl : k.2.2 ≤ 4) : ab_Con E l y_Ki_has b_Ki_has 2 (some .boolean) 0 0 [.ref 170, .int (nI j)] (hc r s w c b d k t ++ Z) 0 0 (fun v h1 => v = some (.int (nI 1)) ∧ h1 = hc r s w c b d k t ++ Z) := by
  refine ab_con (own := "HiddenRows$Kinds") (ini := false) (by decide) (fun h => by cases h) rfl (Nat.le_of_ble_eq_true rfl) ?_
  intro G m X
  show ab_R E G m 2 0 0 0 [(0, .ref 170), (1, .int (nI j))] [] (hc r s w c b d k t ++ Z)
  refine a_iload_n X 1 d_Ki_has_0 rfl rfl ?_
  refine a_if_ltN X 21 (by omega) d_Ki_has_1 (by decide) ?_
  refine a_iload_n X 1 d_Ki_has_4 rfl rfl ?_
  refine a_aload_n X 0 d_Ki_has_5 rfl rfl ?_
  refine a_get X ff_Ki_19 d_Ki_has_6 hq_169 rfl ?_
  refine a_icmp_geN X 21 (by omega) (by omega) d_Ki_has_9 (by decide) (fun c9 => ?_) (fun c9 => ?_)
  ·
    exfalso
    omega
  ·
    refine a_iload_n X 1 d_Ki_has_12 rfl rfl ?_
    refine a_iconst X (v := nI 4) d_Ki_has_13 (by decide) ?_
    refine a_icmp_geN X 21 (by omega) (by omega) d_Ki_has_14 (by decide) (fun c14 => ?_) (fun c14 => ?_)
    ·
      exfalso
      omega
    ·
      refine a_iconst X (v := nI 1) d_Ki_has_17 (by decide) ?_
      refine a_goto X 22 d_Ki_has_18 (by decide) ?_
      exact a_zret X rfl d_Ki_has_22 (Nat.le_refl _) (Nat.le_refl _) ⟨rfl, rfl⟩
set_option maxHeartbeats 4000000 in
set_option maxRecDepth 20000 in
theorem c_Ki_has_n {E : ab_E} {l : Launch} {r : hR} {s : hS} {w c : hW} {b : hB} {d : hD} {k : hK} {t : hT} {Z : List ab_C} {x : Int32} (hx : x < 0 ∨ nI k.2.2 ≤ x) : ab_Con E l y_Ki_has b_Ki_has 2 (some .boolean) 0 0 [.ref 170, .int x] (hc r s w c b d k t ++ Z) 0 0 (fun v h1 => v = some (.int (nI 0)) ∧ h1 = hc r s w c b d k t ++ Z) := by
  refine ab_con (own := "HiddenRows$Kinds") (ini := false) (by decide) (fun h => by cases h) rfl (Nat.le_of_ble_eq_true rfl) ?_
  intro G m X
  show ab_R E G m 2 0 0 0 [(0, .ref 170), (1, .int x)] [] (hc r s w c b d k t ++ Z)
  refine a_iload_n X 1 d_Ki_has_0 rfl rfl ?_
  refine a_if_lt X 21 d_Ki_has_1 (by decide) (fun c1 => ?_) (fun c1 => ?_)
  ·
    refine a_iconst X (v := nI 0) d_Ki_has_21 (by decide) ?_
    exact a_zret X rfl d_Ki_has_22 (Nat.le_refl _) (Nat.le_refl _) ⟨rfl, rfl⟩
  ·
    refine a_iload_n X 1 d_Ki_has_4 rfl rfl ?_
    refine a_aload_n X 0 d_Ki_has_5 rfl rfl ?_
    refine a_get X ff_Ki_19 d_Ki_has_6 hq_169 rfl ?_
    refine a_icmp_ge X 21 d_Ki_has_9 (by decide) (fun c9 => ?_) (fun c9 => ?_)
    ·
      refine a_iconst X (v := nI 0) d_Ki_has_21 (by decide) ?_
      exact a_zret X rfl d_Ki_has_22 (Nat.le_refl _) (Nat.le_refl _) ⟨rfl, rfl⟩
    ·
      exfalso
      rcases hx with q | q
      · exact c1 q
      · exact c9 q
end
section
/-! the class' sums, as functions -/
def cuC (x : Nat) : Nat := min x 1
def mulR (f : Nat → Nat) (x b : Nat) : Nat → Nat
  | 0 => x
  | m + 1 => mulR f x b m * f (b + m)
def sumR (g : Nat → Nat) (a : Nat) : Nat → Nat
  | 0 => 0
  | m + 1 => sumR g a m + g (a + m)
/-- a segment's factor: its stay, what its places show -/
def segR (cu : Nat → Nat) (s : hS) (f : hG) (bg pl st : Nat) : Nat := mulR (fun p => f p st) (cu (s.1 st (2 + pl - 1))) bg pl
/-- all from a segment's beginning on that has more than x places -/
def lonR (cu : Nat → Nat) (s : hS) (n : Nat) (f g : hG) (x bg st : Nat) : Nat := sumR (fun y => segR cu s f bg y st * g (bg + y) st) (x + 1) (min 3 (n - bg) - x)
def outR (cu : Nat → Nat) (s : hS) (f : hG) (p st : Nat) : Nat := sumR (fun y => cu (s.2.1 st y) * f p y) 0 s.2.2
def intR (cu : Nat → Nat) (s : hS) (f : hG) (p st : Nat) : Nat := sumR (fun y => f p y * cu (s.2.1 y st)) 0 s.2.2
def endR (cu : Nat → Nat) (s : hS) (f g : hG) (e st : Nat) : Nat := sumR (fun y => g (e - y) st * segR cu s f (e - y) y st) 1 (min 3 e)
set_option maxHeartbeats 4000000 in
set_option maxRecDepth 20000 in
theorem c_cut_w {E : ab_E} {l : Launch} {r : hR} {s : hS} {w c : hW} {b : hB} {d : hD} {k : hK} {t : hT} {Z : List ab_C} {x : Nat} (hx : x < 2147483648) : ab_Con E l y_Ws_cut b_Ws_cut 2 (some .long) 0 0 [.ref 16, .int (nI x)] (hc r s w c b d k t ++ Z) 0 0 (fun v h1 => v = some (.long (lN (id x))) ∧ h1 = hc r s w c b d k t ++ Z) := by
  refine ab_con (own := "HiddenRows$WaySums") (ini := false) (by decide) (fun h => by cases h) rfl (Nat.le_of_ble_eq_true rfl) ?_
  intro G m X
  show ab_R E G m 2 0 0 0 [(0, .ref 16), (1, .int (nI x))] [] (hc r s w c b d k t ++ Z)
  refine a_iload_n X 1 d_Ws_cut_0 rfl rfl ?_
  refine a_aload_n X 0 d_Ws_cut_1 rfl rfl ?_
  refine a_get X ff_Ws_40 d_Ws_cut_2 hq_15 rfl ?_
  refine a_icmp_geN X 13 (by omega) (by omega) d_Ws_cut_5 (by decide) (fun c5 => ?_) (fun c5 => ?_)
  ·
    refine a_aload_n X 0 d_Ws_cut_13 rfl rfl ?_
    refine a_get X ff_Ws_40 d_Ws_cut_14 hq_15 rfl ?_
    refine a_i2l X d_Ws_cut_17 ?_
    refine ab_topl (nI_l (by omega)) ?_
    exact a_lret X d_Ws_cut_18 (Nat.le_refl _) (Nat.le_refl _) ⟨by first | rfl | (rw [show x = 2147483647 by omega]; rfl), rfl⟩
  ·
    refine a_iload_n X 1 d_Ws_cut_8 rfl rfl ?_
    refine a_i2l X d_Ws_cut_9 ?_
    refine ab_topl (nI_l (by omega)) ?_
    refine a_goto X 18 d_Ws_cut_10 (by decide) ?_
    exact a_lret X d_Ws_cut_18 (Nat.le_refl _) (Nat.le_refl _) ⟨by first | rfl | (rw [show x = 2147483647 by omega]; rfl), rfl⟩
set_option maxHeartbeats 4000000 in
set_option maxRecDepth 20000 in
theorem c_seg_w {E : ab_E} {l : Launch} {r : hR} {s : hS} {w c : hW} {b : hB} {d : hD} {k : hK} {t : hT} {Z : List ab_C} (hw : ∀ i j, s.1 i j ≤ 4) {bg pl st : Nat} (hp : 1 ≤ pl) (hp3 : pl ≤ 3) (hst : st < 4) (hb : bg + pl ≤ 6) : ab_Con E l y_Ws_segment b_Ws_segment 7 (some .long) 1 21 [.ref 16, .int (nI bg), .int (nI pl), .int (nI st)] (hc r s w c b d k t ++ Z) 0 0 (fun v h1 => v = some (.long (lN (segR id s w.1 bg pl st))) ∧ h1 = hc r s w c b d k t ++ Z) := by
  refine ab_con (own := "HiddenRows$WaySums") (ini := false) (by decide) (fun h => by cases h) rfl (Nat.le_of_ble_eq_true rfl) ?_
  intro G m X
  show ab_R E G m 7 0 0 0 [(0, .ref 16), (1, .int (nI bg)), (2, .int (nI pl)), (3, .int (nI st))] [] (hc r s w c b d k t ++ Z)
  refine a_aload_n X 0 d_Ws_segment_0 rfl rfl ?_
  refine a_aload_n X 0 d_Ws_segment_1 rfl rfl ?_
  refine a_get X ff_Ws_36 d_Ws_segment_2 hq_15 rfl ?_
  refine a_get X ff_Ws_78 d_Ws_segment_5 hq_4 rfl ?_
  refine a_iload_n X 3 d_Ws_segment_8 rfl rfl ?_
  refine a_aald X d_Ws_segment_9 hq_5 rfl rfl (ab_ix_nI (by omega) (by decide)) (hg_wt (by omega)) ?_
  refine a_iconst X (v := nI 2) d_Ws_segment_10 (by decide) ?_
  refine a_iload_n X 2 d_Ws_segment_11 rfl rfl ?_
  refine a_iadd X d_Ws_segment_12 ?_
  refine ab_topi (nI_add _ _) ?_
  refine a_iconst X (v := nI 1) d_Ws_segment_13 (by decide) ?_
  refine a_isub X d_Ws_segment_14 ?_
  refine ab_topi (pk_sub (by omega)) ?_
  refine a_iald X d_Ws_segment_15 (hr_wt (by omega)) rfl (ab_ix_nI (by omega) (by decide)) ?_
  refine a_callV X (a := 15) (As := [.int (nI _)]) hq_15 rfl fb_Ws_cut lk_Ws_71 im_Ws_cut se_Ws_cut (c_cut_w (by have := hw st (2 + pl - 1); omega)) rfl rfl (Nat.le_of_ble_eq_true rfl) (by decide) (by decide) (Nat.le_refl _) (Nat.le_refl _) d_Ws_segment_16 (fun v h1 hp => ?_)
  obtain ⟨rfl, rfl⟩ := hp
  refine a_lstore X d_Ws_segment_19 (by decide) ?_
  refine a_iload_n X 1 d_Ws_segment_21 rfl rfl ?_
  refine a_istore X d_Ws_segment_22 (by decide) ?_
  refine ab_sub [(0, .ref 16), (1, .int (nI bg)), (2, .int (nI pl)), (3, .int (nI st)), (4, .long (lN (mulR (fun p => w.1 p st) (id (s.1 st (2 + pl - 1))) bg 0))), (6, .int (nI (bg + 0)))] rfl ?_
  suffices LP : ∀ (mm i : Nat), i ≤ pl → pl - i < mm → ab_R E G m 7 0 0 24 [(0, .ref 16), (1, .int (nI bg)), (2, .int (nI pl)), (3, .int (nI st)), (4, .long (lN (mulR (fun p => w.1 p st) (id (s.1 st (2 + pl - 1))) bg i))), (6, .int (nI (bg + i)))] [] (hc r s w c b d k t ++ Z) from LP (pl + 1) 0 (by omega) (by omega)
  intro mm
  induction mm with
  | zero => intro i h1 h2; exfalso; omega
  | succ mm ih =>
    intro i h1 h2
    refine a_iload X d_Ws_segment_24 rfl ?_
    refine a_iload_n X 1 d_Ws_segment_26 rfl rfl ?_
    refine a_iload_n X 2 d_Ws_segment_27 rfl rfl ?_
    refine a_iadd X d_Ws_segment_28 ?_
    refine ab_topi (nI_add _ _) ?_
    refine a_icmp_geN X 52 (by omega) (by omega) d_Ws_segment_29 (by decide) (fun c29 => ?_) (fun c29 => ?_)
    ·
      refine a_lload X d_Ws_segment_52 rfl ?_
      exact a_lret X d_Ws_segment_54 (Nat.le_refl _) (Nat.le_refl _) ⟨by rw [show i = pl by omega]; rfl, rfl⟩
    ·
      refine a_lload X d_Ws_segment_32 rfl ?_
      refine a_aload_n X 0 d_Ws_segment_34 rfl rfl ?_
      refine a_get X ff_Ws_11 d_Ws_segment_35 hq_15 rfl ?_
      refine a_iload X d_Ws_segment_38 rfl ?_
      refine a_aald X d_Ws_segment_40 hq_16 rfl rfl (ab_ix_nI (by omega) (by decide)) (hg_sh (by omega)) ?_
      refine a_iload_n X 3 d_Ws_segment_41 rfl rfl ?_
      refine a_lald X d_Ws_segment_42 (hr_sh (by omega)) rfl (ab_ix_nI (by omega) (by decide)) ?_
      refine a_lmul X d_Ws_segment_43 ?_
      refine ab_topl (lN_mul _ _) ?_
      refine a_lstore X d_Ws_segment_44 (by decide) ?_
      refine a_incN X d_Ws_segment_46 rfl (by decide) ?_
      refine a_goto X 24 d_Ws_segment_49 (by decide) ?_
      refine ab_sub [(0, .ref 16), (1, .int (nI bg)), (2, .int (nI pl)), (3, .int (nI st)), (4, .long (lN (mulR (fun p => w.1 p st) (id (s.1 st (2 + pl - 1))) bg (i + 1)))), (6, .int (nI (bg + (i + 1))))] rfl ?_
      exact ih (i + 1) (by omega) (by omega)
set_option maxHeartbeats 4000000 in
set_option maxRecDepth 20000 in
theorem c_cut_c {E : ab_E} {l : Launch} {r : hR} {s : hS} {w c : hW} {b : hB} {d : hD} {k : hK} {t : hT} {Z : List ab_C} {x : Nat} (hx : x < 2147483648) : ab_Con E l y_Ws_cut b_Ws_cut 2 (some .long) 0 0 [.ref 54, .int (nI x)] (hc r s w c b d k t ++ Z) 0 0 (fun v h1 => v = some (.long (lN (cuC x))) ∧ h1 = hc r s w c b d k t ++ Z) := by
  refine ab_con (own := "HiddenRows$WaySums") (ini := false) (by decide) (fun h => by cases h) rfl (Nat.le_of_ble_eq_true rfl) ?_
  intro G m X
  show ab_R E G m 2 0 0 0 [(0, .ref 54), (1, .int (nI x))] [] (hc r s w c b d k t ++ Z)
  refine a_iload_n X 1 d_Ws_cut_0 rfl rfl ?_
  refine a_aload_n X 0 d_Ws_cut_1 rfl rfl ?_
  refine a_get X ff_Ws_40 d_Ws_cut_2 hq_53 rfl ?_
  refine a_icmp_geN X 13 (by omega) (by omega) d_Ws_cut_5 (by decide) (fun c5 => ?_) (fun c5 => ?_)
  ·
    refine a_aload_n X 0 d_Ws_cut_13 rfl rfl ?_
    refine a_get X ff_Ws_40 d_Ws_cut_14 hq_53 rfl ?_
    refine a_i2l X d_Ws_cut_17 ?_
    refine ab_topl (nI_l (by omega)) ?_
    exact a_lret X d_Ws_cut_18 (Nat.le_refl _) (Nat.le_refl _) ⟨by unfold cuC; first | rw [Nat.min_eq_right (by omega)] | rw [Nat.min_eq_left (by omega)], rfl⟩
  ·
    refine a_iload_n X 1 d_Ws_cut_8 rfl rfl ?_
    refine a_i2l X d_Ws_cut_9 ?_
    refine ab_topl (nI_l (by omega)) ?_
    refine a_goto X 18 d_Ws_cut_10 (by decide) ?_
    exact a_lret X d_Ws_cut_18 (Nat.le_refl _) (Nat.le_refl _) ⟨by unfold cuC; first | rw [Nat.min_eq_right (by omega)] | rw [Nat.min_eq_left (by omega)], rfl⟩
set_option maxHeartbeats 4000000 in
set_option maxRecDepth 20000 in
theorem c_seg_c {E : ab_E} {l : Launch} {r : hR} {s : hS} {w c : hW} {b : hB} {d : hD} {k : hK} {t : hT} {Z : List ab_C} (hw : ∀ i j, s.1 i j ≤ 4) {bg pl st : Nat} (hp : 1 ≤ pl) (hp3 : pl ≤ 3) (hst : st < 4) (hb : bg + pl ≤ 6) : ab_Con E l y_Ws_segment b_Ws_segment 7 (some .long) 1 21 [.ref 54, .int (nI bg), .int (nI pl), .int (nI st)] (hc r s w c b d k t ++ Z) 0 0 (fun v h1 => v = some (.long (lN (segR cuC s c.1 bg pl st))) ∧ h1 = hc r s w c b d k t ++ Z) := by
  refine ab_con (own := "HiddenRows$WaySums") (ini := false) (by decide) (fun h => by cases h) rfl (Nat.le_of_ble_eq_true rfl) ?_
  intro G m X
  show ab_R E G m 7 0 0 0 [(0, .ref 54), (1, .int (nI bg)), (2, .int (nI pl)), (3, .int (nI st))] [] (hc r s w c b d k t ++ Z)
  refine a_aload_n X 0 d_Ws_segment_0 rfl rfl ?_
  refine a_aload_n X 0 d_Ws_segment_1 rfl rfl ?_
  refine a_get X ff_Ws_36 d_Ws_segment_2 hq_53 rfl ?_
  refine a_get X ff_Ws_78 d_Ws_segment_5 hq_4 rfl ?_
  refine a_iload_n X 3 d_Ws_segment_8 rfl rfl ?_
  refine a_aald X d_Ws_segment_9 hq_5 rfl rfl (ab_ix_nI (by omega) (by decide)) (hg_wt (by omega)) ?_
  refine a_iconst X (v := nI 2) d_Ws_segment_10 (by decide) ?_
  refine a_iload_n X 2 d_Ws_segment_11 rfl rfl ?_
  refine a_iadd X d_Ws_segment_12 ?_
  refine ab_topi (nI_add _ _) ?_
  refine a_iconst X (v := nI 1) d_Ws_segment_13 (by decide) ?_
  refine a_isub X d_Ws_segment_14 ?_
  refine ab_topi (pk_sub (by omega)) ?_
  refine a_iald X d_Ws_segment_15 (hr_wt (by omega)) rfl (ab_ix_nI (by omega) (by decide)) ?_
  refine a_callV X (a := 53) (As := [.int (nI _)]) hq_53 rfl fb_Ws_cut lk_Ws_71 im_Ws_cut se_Ws_cut (c_cut_c (by have := hw st (2 + pl - 1); omega)) rfl rfl (Nat.le_of_ble_eq_true rfl) (by decide) (by decide) (Nat.le_refl _) (Nat.le_refl _) d_Ws_segment_16 (fun v h1 hp => ?_)
  obtain ⟨rfl, rfl⟩ := hp
  refine a_lstore X d_Ws_segment_19 (by decide) ?_
  refine a_iload_n X 1 d_Ws_segment_21 rfl rfl ?_
  refine a_istore X d_Ws_segment_22 (by decide) ?_
  refine ab_sub [(0, .ref 54), (1, .int (nI bg)), (2, .int (nI pl)), (3, .int (nI st)), (4, .long (lN (mulR (fun p => c.1 p st) (cuC (s.1 st (2 + pl - 1))) bg 0))), (6, .int (nI (bg + 0)))] rfl ?_
  suffices LP : ∀ (mm i : Nat), i ≤ pl → pl - i < mm → ab_R E G m 7 0 0 24 [(0, .ref 54), (1, .int (nI bg)), (2, .int (nI pl)), (3, .int (nI st)), (4, .long (lN (mulR (fun p => c.1 p st) (cuC (s.1 st (2 + pl - 1))) bg i))), (6, .int (nI (bg + i)))] [] (hc r s w c b d k t ++ Z) from LP (pl + 1) 0 (by omega) (by omega)
  intro mm
  induction mm with
  | zero => intro i h1 h2; exfalso; omega
  | succ mm ih =>
    intro i h1 h2
    refine a_iload X d_Ws_segment_24 rfl ?_
    refine a_iload_n X 1 d_Ws_segment_26 rfl rfl ?_
    refine a_iload_n X 2 d_Ws_segment_27 rfl rfl ?_
    refine a_iadd X d_Ws_segment_28 ?_
    refine ab_topi (nI_add _ _) ?_
    refine a_icmp_geN X 52 (by omega) (by omega) d_Ws_segment_29 (by decide) (fun c29 => ?_) (fun c29 => ?_)
    ·
      refine a_lload X d_Ws_segment_52 rfl ?_
      exact a_lret X d_Ws_segment_54 (Nat.le_refl _) (Nat.le_refl _) ⟨by rw [show i = pl by omega]; rfl, rfl⟩
    ·
      refine a_lload X d_Ws_segment_32 rfl ?_
      refine a_aload_n X 0 d_Ws_segment_34 rfl rfl ?_
      refine a_get X ff_Ws_11 d_Ws_segment_35 hq_53 rfl ?_
      refine a_iload X d_Ws_segment_38 rfl ?_
      refine a_aald X d_Ws_segment_40 hq_54 rfl rfl (ab_ix_nI (by omega) (by decide)) (hg_csh (by omega)) ?_
      refine a_iload_n X 3 d_Ws_segment_41 rfl rfl ?_
      refine a_lald X d_Ws_segment_42 (hr_csh (by omega)) rfl (ab_ix_nI (by omega) (by decide)) ?_
      refine a_lmul X d_Ws_segment_43 ?_
      refine ab_topl (lN_mul _ _) ?_
      refine a_lstore X d_Ws_segment_44 (by decide) ?_
      refine a_incN X d_Ws_segment_46 rfl (by decide) ?_
      refine a_goto X 24 d_Ws_segment_49 (by decide) ?_
      refine ab_sub [(0, .ref 54), (1, .int (nI bg)), (2, .int (nI pl)), (3, .int (nI st)), (4, .long (lN (mulR (fun p => c.1 p st) (cuC (s.1 st (2 + pl - 1))) bg (i + 1)))), (6, .int (nI (bg + (i + 1))))] rfl ?_
      exact ih (i + 1) (by omega) (by omega)
end
section
/-- what a place shows for a state: 0 where it is held for another -/
def shoR (cu : Nat → Nat) (s : hS) (r : hR) (p st : Nat) : Nat := if r.2.1 p ≠ -1 ∧ r.2.1 p ≠ nI st then 0 else if r.1 p = -1 then cu (sumR (fun y => s.1 st (5 + y)) 0 4) else cu (s.1 st (5 + (r.1 p).toNatClampNeg))
theorem sumR_le {g : Nat → Nat} {a z : Nat} (h : ∀ i, g i ≤ z) : ∀ m, sumR g a m ≤ m * z
  | 0 => Nat.zero_le _
  | m + 1 => by
    have h1 := sumR_le (a := a) h m
    have h2 := h (a + m)
    show sumR g a m + g (a + m) ≤ (m + 1) * z
    rw [Nat.succ_mul]
    omega
set_option maxHeartbeats 4000000 in
set_option maxRecDepth 20000 in
theorem c_lon_w {E : ab_E} {l : Launch} {r : hR} {s : hS} {w c : hW} {b : hB} {d : hD} {k : hK} {t : hT} {Z : List ab_C} (hw : ∀ i j, s.1 i j ≤ 4) {x bg st : Nat} (hn : r.2.2 ≤ 6) (hx : x ≤ 3) (hbg : bg ≤ r.2.2) (hst : st < 4) : ab_Con E l y_Ws_longerThan b_Ws_longerThan 7 (some .long) 2 47 [.ref 16, .int (nI x), .int (nI bg), .int (nI st)] (hc r s w c b d k t ++ Z) 0 0 (fun v h1 => v = some (.long (lN (lonR id s r.2.2 w.1 w.2.2.1 x bg st))) ∧ h1 = hc r s w c b d k t ++ Z) := by
  refine ab_con (own := "HiddenRows$WaySums") (ini := false) (by decide) (fun h => by cases h) rfl (Nat.le_of_ble_eq_true rfl) ?_
  intro G m X
  show ab_R E G m 7 0 0 0 [(0, .ref 16), (1, .int (nI x)), (2, .int (nI bg)), (3, .int (nI st))] [] (hc r s w c b d k t ++ Z)
  refine a_lconst X (v := lN 0) d_Ws_longerThan_0 (by decide) ?_
  refine a_lstore X d_Ws_longerThan_1 (by decide) ?_
  refine a_iload_n X 1 d_Ws_longerThan_3 rfl rfl ?_
  refine a_iconst X (v := nI 1) d_Ws_longerThan_4 (by decide) ?_
  refine a_iadd X d_Ws_longerThan_5 ?_
  refine ab_topi (nI_add _ _) ?_
  refine a_istore X d_Ws_longerThan_6 (by decide) ?_
  refine ab_sub [(0, .ref 16), (1, .int (nI x)), (2, .int (nI bg)), (3, .int (nI st)), (4, .long (lN (sumR (fun y => segR id s w.1 bg y st * w.2.2.1 (bg + y) st) (x + 1) 0))), (6, .int (nI (x + 1 + 0)))] rfl ?_
  suffices LP : ∀ (mm i : Nat), i ≤ (min 3 (r.2.2 - bg) - x) → (min 3 (r.2.2 - bg) - x) - i < mm → ab_R E G m 7 0 0 8 [(0, .ref 16), (1, .int (nI x)), (2, .int (nI bg)), (3, .int (nI st)), (4, .long (lN (sumR (fun y => segR id s w.1 bg y st * w.2.2.1 (bg + y) st) (x + 1) i))), (6, .int (nI (x + 1 + i)))] [] (hc r s w c b d k t ++ Z) from LP ((min 3 (r.2.2 - bg) - x) + 1) 0 (by omega) (by omega)
  intro mm
  induction mm with
  | zero => intro i h1 h2; exfalso; omega
  | succ mm ih =>
    intro i h1 h2
    refine a_iload X d_Ws_longerThan_8 rfl ?_
    refine a_iconst X (v := nI 3) d_Ws_longerThan_10 (by decide) ?_
    refine a_icmp_gtN X 59 (by omega) (by omega) d_Ws_longerThan_11 (by decide) (fun c11 => ?_) (fun c11 => ?_)
    ·
      refine a_lload X d_Ws_longerThan_59 rfl ?_
      exact a_lret X d_Ws_longerThan_61 (Nat.le_refl _) (Nat.le_refl _) ⟨by rw [show i = (min 3 (r.2.2 - bg) - x) by omega]; rfl, rfl⟩
    ·
      refine a_iload_n X 2 d_Ws_longerThan_14 rfl rfl ?_
      refine a_iload X d_Ws_longerThan_15 rfl ?_
      refine a_iadd X d_Ws_longerThan_17 ?_
      refine ab_topi (nI_add _ _) ?_
      refine a_aload_n X 0 d_Ws_longerThan_18 rfl rfl ?_
      refine a_get X ff_Ws_32 d_Ws_longerThan_19 hq_15 rfl ?_
      refine a_get X ff_Ws_47 d_Ws_longerThan_22 hq_1 rfl ?_
      refine a_icmp_gtN X 59 (by omega) (by omega) d_Ws_longerThan_25 (by decide) (fun c25 => ?_) (fun c25 => ?_)
      ·
        refine a_lload X d_Ws_longerThan_59 rfl ?_
        exact a_lret X d_Ws_longerThan_61 (Nat.le_refl _) (Nat.le_refl _) ⟨by rw [show i = (min 3 (r.2.2 - bg) - x) by omega]; rfl, rfl⟩
      ·
        refine a_lload X d_Ws_longerThan_28 rfl ?_
        refine a_aload_n X 0 d_Ws_longerThan_30 rfl rfl ?_
        refine a_iload_n X 2 d_Ws_longerThan_31 rfl rfl ?_
        refine a_iload X d_Ws_longerThan_32 rfl ?_
        refine a_iload_n X 3 d_Ws_longerThan_34 rfl rfl ?_
        refine a_callV X (a := 15) (As := [.int (nI _), .int (nI _), .int (nI _)]) hq_15 rfl fb_Ws_segment lk_Ws_75 im_Ws_segment se_Ws_segment (c_seg_w hw (by omega) (by omega) (by omega) (by omega)) rfl rfl (Nat.le_of_ble_eq_true rfl) (by decide) (by decide) (Nat.le_refl _) (Nat.le_refl _) d_Ws_longerThan_35 (fun v h1 hp => ?_)
        obtain ⟨rfl, rfl⟩ := hp
        refine a_aload_n X 0 d_Ws_longerThan_38 rfl rfl ?_
        refine a_get X ff_Ws_19 d_Ws_longerThan_39 hq_15 rfl ?_
        refine a_iload_n X 2 d_Ws_longerThan_42 rfl rfl ?_
        refine a_iload X d_Ws_longerThan_43 rfl ?_
        refine a_iadd X d_Ws_longerThan_45 ?_
        refine ab_topi (nI_add _ _) ?_
        refine a_aald X d_Ws_longerThan_46 hq_30 rfl rfl (ab_ix_nI (by omega) (by decide)) (hg_le (by omega)) ?_
        refine a_iload_n X 3 d_Ws_longerThan_47 rfl rfl ?_
        refine a_lald X d_Ws_longerThan_48 (hr_le (by omega)) rfl (ab_ix_nI (by omega) (by decide)) ?_
        refine a_lmul X d_Ws_longerThan_49 ?_
        refine ab_topl (lN_mul _ _) ?_
        refine a_ladd X d_Ws_longerThan_50 ?_
        refine ab_topl (lN_add _ _) ?_
        refine a_lstore X d_Ws_longerThan_51 (by decide) ?_
        refine a_incN X d_Ws_longerThan_53 rfl (by decide) ?_
        refine a_goto X 8 d_Ws_longerThan_56 (by decide) ?_
        refine ab_sub [(0, .ref 16), (1, .int (nI x)), (2, .int (nI bg)), (3, .int (nI st)), (4, .long (lN (sumR (fun y => segR id s w.1 bg y st * w.2.2.1 (bg + y) st) (x + 1) (i + 1)))), (6, .int (nI (x + 1 + (i + 1))))] rfl ?_
        exact ih (i + 1) (by omega) (by omega)
set_option maxHeartbeats 4000000 in
set_option maxRecDepth 20000 in
theorem c_out_w {E : ab_E} {l : Launch} {r : hR} {s : hS} {w c : hW} {b : hB} {d : hD} {k : hK} {t : hT} {Z : List ab_C} (hm : ∀ i j, s.2.1 i j ≤ 4) {p st : Nat} (hq : s.2.2 ≤ 4) (hp : p < 6) (hst : st < 4) : ab_Con E l y_Ws_movedOutOf b_Ws_movedOutOf 6 (some .long) 1 21 [.ref 16, .int (nI p), .int (nI st)] (hc r s w c b d k t ++ Z) 0 0 (fun v h1 => v = some (.long (lN (outR id s w.2.1 p st))) ∧ h1 = hc r s w c b d k t ++ Z) := by
  refine ab_con (own := "HiddenRows$WaySums") (ini := false) (by decide) (fun h => by cases h) rfl (Nat.le_of_ble_eq_true rfl) ?_
  intro G m X
  show ab_R E G m 6 0 0 0 [(0, .ref 16), (1, .int (nI p)), (2, .int (nI st))] [] (hc r s w c b d k t ++ Z)
  refine a_lconst X (v := lN 0) d_Ws_movedOutOf_0 (by decide) ?_
  refine a_lstore_n X 3 d_Ws_movedOutOf_1 rfl (by decide) ?_
  refine a_iconst X (v := nI 0) d_Ws_movedOutOf_2 (by decide) ?_
  refine a_istore X d_Ws_movedOutOf_3 (by decide) ?_
  refine ab_sub [(0, .ref 16), (1, .int (nI p)), (2, .int (nI st)), (3, .long (lN (sumR (fun y => id (s.2.1 st y) * w.2.1 p y) 0 0))), (5, .int (nI 0))] rfl ?_
  suffices LP : ∀ (mm i : Nat), i ≤ s.2.2 → s.2.2 - i < mm → ab_R E G m 6 0 0 5 [(0, .ref 16), (1, .int (nI p)), (2, .int (nI st)), (3, .long (lN (sumR (fun y => id (s.2.1 st y) * w.2.1 p y) 0 i))), (5, .int (nI i))] [] (hc r s w c b d k t ++ Z) from LP (s.2.2 + 1) 0 (by omega) (by omega)
  intro mm
  induction mm with
  | zero => intro i h1 h2; exfalso; omega
  | succ mm ih =>
    intro i h1 h2
    refine a_iload X d_Ws_movedOutOf_5 rfl ?_
    refine a_aload_n X 0 d_Ws_movedOutOf_7 rfl rfl ?_
    refine a_get X ff_Ws_36 d_Ws_movedOutOf_8 hq_15 rfl ?_
    refine a_get X ff_Ws_52 d_Ws_movedOutOf_11 hq_4 rfl ?_
    refine a_icmp_geN X 52 (by omega) (by omega) d_Ws_movedOutOf_14 (by decide) (fun c14 => ?_) (fun c14 => ?_)
    ·
      refine a_lload_n X 3 d_Ws_movedOutOf_52 rfl rfl ?_
      exact a_lret X d_Ws_movedOutOf_53 (Nat.le_refl _) (Nat.le_refl _) ⟨by rw [show i = s.2.2 by omega]; rfl, rfl⟩
    ·
      refine a_lload_n X 3 d_Ws_movedOutOf_17 rfl rfl ?_
      refine a_aload_n X 0 d_Ws_movedOutOf_18 rfl rfl ?_
      refine a_aload_n X 0 d_Ws_movedOutOf_19 rfl rfl ?_
      refine a_get X ff_Ws_36 d_Ws_movedOutOf_20 hq_15 rfl ?_
      refine a_get X ff_Ws_67 d_Ws_movedOutOf_23 hq_4 rfl ?_
      refine a_iload_n X 2 d_Ws_movedOutOf_26 rfl rfl ?_
      refine a_aald X d_Ws_movedOutOf_27 hq_10 rfl rfl (ab_ix_nI (by omega) (by decide)) (hg_mv (by omega)) ?_
      refine a_iload X d_Ws_movedOutOf_28 rfl ?_
      refine a_iald X d_Ws_movedOutOf_30 (hr_mv (by omega)) rfl (ab_ix_nI (by omega) (by decide)) ?_
      refine a_callV X (a := 15) (As := [.int (nI _)]) hq_15 rfl fb_Ws_cut lk_Ws_71 im_Ws_cut se_Ws_cut (c_cut_w (by have := hm st i; omega)) rfl rfl (Nat.le_of_ble_eq_true rfl) (by decide) (by decide) (Nat.le_refl _) (Nat.le_refl _) d_Ws_movedOutOf_31 (fun v h1 hp => ?_)
      obtain ⟨rfl, rfl⟩ := hp
      refine a_aload_n X 0 d_Ws_movedOutOf_34 rfl rfl ?_
      refine a_get X ff_Ws_16 d_Ws_movedOutOf_35 hq_15 rfl ?_
      refine a_iload_n X 1 d_Ws_movedOutOf_38 rfl rfl ?_
      refine a_aald X d_Ws_movedOutOf_39 hq_23 rfl rfl (ab_ix_nI (by omega) (by decide)) (hg_fr (by omega)) ?_
      refine a_iload X d_Ws_movedOutOf_40 rfl ?_
      refine a_lald X d_Ws_movedOutOf_42 (hr_fr (by omega)) rfl (ab_ix_nI (by omega) (by decide)) ?_
      refine a_lmul X d_Ws_movedOutOf_43 ?_
      refine ab_topl (lN_mul _ _) ?_
      refine a_ladd X d_Ws_movedOutOf_44 ?_
      refine ab_topl (lN_add _ _) ?_
      refine ab_topl (congrArg lN (show _ = sumR (fun y => id (s.2.1 st y) * w.2.1 p y) 0 (i + 1) from by show _ = sumR _ 0 i + _ * _; rw [Nat.zero_add])) ?_
      refine a_lstore_n X 3 d_Ws_movedOutOf_45 rfl (by decide) ?_
      refine a_incN X d_Ws_movedOutOf_46 rfl (by decide) ?_
      refine a_goto X 5 d_Ws_movedOutOf_49 (by decide) ?_
      refine ab_sub [(0, .ref 16), (1, .int (nI p)), (2, .int (nI st)), (3, .long (lN (sumR (fun y => id (s.2.1 st y) * w.2.1 p y) 0 (i + 1)))), (5, .int (nI (i + 1)))] rfl ?_
      exact ih (i + 1) (by omega) (by omega)
set_option maxHeartbeats 4000000 in
set_option maxRecDepth 20000 in
theorem c_int_w {E : ab_E} {l : Launch} {r : hR} {s : hS} {w c : hW} {b : hB} {d : hD} {k : hK} {t : hT} {Z : List ab_C} (hm : ∀ i j, s.2.1 i j ≤ 4) {p st : Nat} (hq : s.2.2 ≤ 4) (hp : p < 7) (hst : st < 4) : ab_Con E l y_Ws_movedInto b_Ws_movedInto 6 (some .long) 1 21 [.ref 16, .int (nI p), .int (nI st)] (hc r s w c b d k t ++ Z) 0 0 (fun v h1 => v = some (.long (lN (intR id s w.2.2.2.1 p st))) ∧ h1 = hc r s w c b d k t ++ Z) := by
  refine ab_con (own := "HiddenRows$WaySums") (ini := false) (by decide) (fun h => by cases h) rfl (Nat.le_of_ble_eq_true rfl) ?_
  intro G m X
  show ab_R E G m 6 0 0 0 [(0, .ref 16), (1, .int (nI p)), (2, .int (nI st))] [] (hc r s w c b d k t ++ Z)
  refine a_lconst X (v := lN 0) d_Ws_movedInto_0 (by decide) ?_
  refine a_lstore_n X 3 d_Ws_movedInto_1 rfl (by decide) ?_
  refine a_iconst X (v := nI 0) d_Ws_movedInto_2 (by decide) ?_
  refine a_istore X d_Ws_movedInto_3 (by decide) ?_
  refine ab_sub [(0, .ref 16), (1, .int (nI p)), (2, .int (nI st)), (3, .long (lN (sumR (fun y => w.2.2.2.1 p y * id (s.2.1 y st)) 0 0))), (5, .int (nI 0))] rfl ?_
  suffices LP : ∀ (mm i : Nat), i ≤ s.2.2 → s.2.2 - i < mm → ab_R E G m 6 0 0 5 [(0, .ref 16), (1, .int (nI p)), (2, .int (nI st)), (3, .long (lN (sumR (fun y => w.2.2.2.1 p y * id (s.2.1 y st)) 0 i))), (5, .int (nI i))] [] (hc r s w c b d k t ++ Z) from LP (s.2.2 + 1) 0 (by omega) (by omega)
  intro mm
  induction mm with
  | zero => intro i h1 h2; exfalso; omega
  | succ mm ih =>
    intro i h1 h2
    refine a_iload X d_Ws_movedInto_5 rfl ?_
    refine a_aload_n X 0 d_Ws_movedInto_7 rfl rfl ?_
    refine a_get X ff_Ws_36 d_Ws_movedInto_8 hq_15 rfl ?_
    refine a_get X ff_Ws_52 d_Ws_movedInto_11 hq_4 rfl ?_
    refine a_icmp_geN X 52 (by omega) (by omega) d_Ws_movedInto_14 (by decide) (fun c14 => ?_) (fun c14 => ?_)
    ·
      refine a_lload_n X 3 d_Ws_movedInto_52 rfl rfl ?_
      exact a_lret X d_Ws_movedInto_53 (Nat.le_refl _) (Nat.le_refl _) ⟨by rw [show i = s.2.2 by omega]; rfl, rfl⟩
    ·
      refine a_lload_n X 3 d_Ws_movedInto_17 rfl rfl ?_
      refine a_aload_n X 0 d_Ws_movedInto_18 rfl rfl ?_
      refine a_get X ff_Ws_22 d_Ws_movedInto_19 hq_15 rfl ?_
      refine a_iload_n X 1 d_Ws_movedInto_22 rfl rfl ?_
      refine a_aald X d_Ws_movedInto_23 hq_38 rfl rfl (ab_ix_nI (by omega) (by decide)) (hg_up (by omega)) ?_
      refine a_iload X d_Ws_movedInto_24 rfl ?_
      refine a_lald X d_Ws_movedInto_26 (hr_up (by omega)) rfl (ab_ix_nI (by omega) (by decide)) ?_
      refine a_aload_n X 0 d_Ws_movedInto_27 rfl rfl ?_
      refine a_aload_n X 0 d_Ws_movedInto_28 rfl rfl ?_
      refine a_get X ff_Ws_36 d_Ws_movedInto_29 hq_15 rfl ?_
      refine a_get X ff_Ws_67 d_Ws_movedInto_32 hq_4 rfl ?_
      refine a_iload X d_Ws_movedInto_35 rfl ?_
      refine a_aald X d_Ws_movedInto_37 hq_10 rfl rfl (ab_ix_nI (by omega) (by decide)) (hg_mv (by omega)) ?_
      refine a_iload_n X 2 d_Ws_movedInto_38 rfl rfl ?_
      refine a_iald X d_Ws_movedInto_39 (hr_mv (by omega)) rfl (ab_ix_nI (by omega) (by decide)) ?_
      refine a_callV X (a := 15) (As := [.int (nI _)]) hq_15 rfl fb_Ws_cut lk_Ws_71 im_Ws_cut se_Ws_cut (c_cut_w (by have := hm i st; omega)) rfl rfl (Nat.le_of_ble_eq_true rfl) (by decide) (by decide) (Nat.le_refl _) (Nat.le_refl _) d_Ws_movedInto_40 (fun v h1 hp => ?_)
      obtain ⟨rfl, rfl⟩ := hp
      refine a_lmul X d_Ws_movedInto_43 ?_
      refine ab_topl (lN_mul _ _) ?_
      refine a_ladd X d_Ws_movedInto_44 ?_
      refine ab_topl (lN_add _ _) ?_
      refine ab_topl (congrArg lN (show _ = sumR (fun y => w.2.2.2.1 p y * id (s.2.1 y st)) 0 (i + 1) from by show _ = sumR _ 0 i + _ * _; rw [Nat.zero_add])) ?_
      refine a_lstore_n X 3 d_Ws_movedInto_45 rfl (by decide) ?_
      refine a_incN X d_Ws_movedInto_46 rfl (by decide) ?_
      refine a_goto X 5 d_Ws_movedInto_49 (by decide) ?_
      refine ab_sub [(0, .ref 16), (1, .int (nI p)), (2, .int (nI st)), (3, .long (lN (sumR (fun y => w.2.2.2.1 p y * id (s.2.1 y st)) 0 (i + 1)))), (5, .int (nI (i + 1)))] rfl ?_
      exact ih (i + 1) (by omega) (by omega)
set_option maxHeartbeats 4000000 in
set_option maxRecDepth 20000 in
theorem c_end_w {E : ab_E} {l : Launch} {r : hR} {s : hS} {w c : hW} {b : hB} {d : hD} {k : hK} {t : hT} {Z : List ab_C} (hw : ∀ i j, s.1 i j ≤ 4) {e st : Nat} (he : e ≤ 6) (hst : st < 4) : ab_Con E l y_Ws_endedBefore b_Ws_endedBefore 6 (some .long) 2 47 [.ref 16, .int (nI e), .int (nI st)] (hc r s w c b d k t ++ Z) 0 0 (fun v h1 => v = some (.long (lN (endR id s w.1 w.2.2.2.2.1 e st))) ∧ h1 = hc r s w c b d k t ++ Z) := by
  refine ab_con (own := "HiddenRows$WaySums") (ini := false) (by decide) (fun h => by cases h) rfl (Nat.le_of_ble_eq_true rfl) ?_
  intro G m X
  show ab_R E G m 6 0 0 0 [(0, .ref 16), (1, .int (nI e)), (2, .int (nI st))] [] (hc r s w c b d k t ++ Z)
  refine a_lconst X (v := lN 0) d_Ws_endedBefore_0 (by decide) ?_
  refine a_lstore_n X 3 d_Ws_endedBefore_1 rfl (by decide) ?_
  refine a_iconst X (v := nI 1) d_Ws_endedBefore_2 (by decide) ?_
  refine a_istore X d_Ws_endedBefore_3 (by decide) ?_
  refine ab_sub [(0, .ref 16), (1, .int (nI e)), (2, .int (nI st)), (3, .long (lN (sumR (fun y => w.2.2.2.2.1 (e - y) st * segR id s w.1 (e - y) y st) 1 0))), (5, .int (nI (1 + 0)))] rfl ?_
  suffices LP : ∀ (mm i : Nat), i ≤ (min 3 e) → (min 3 e) - i < mm → ab_R E G m 6 0 0 5 [(0, .ref 16), (1, .int (nI e)), (2, .int (nI st)), (3, .long (lN (sumR (fun y => w.2.2.2.2.1 (e - y) st * segR id s w.1 (e - y) y st) 1 i))), (5, .int (nI (1 + i)))] [] (hc r s w c b d k t ++ Z) from LP ((min 3 e) + 1) 0 (by omega) (by omega)
  intro mm
  induction mm with
  | zero => intro i h1 h2; exfalso; omega
  | succ mm ih =>
    intro i h1 h2
    refine a_iload X d_Ws_endedBefore_5 rfl ?_
    refine a_iconst X (v := nI 3) d_Ws_endedBefore_7 (by decide) ?_
    refine a_icmp_gtN X 49 (by omega) (by omega) d_Ws_endedBefore_8 (by decide) (fun c8 => ?_) (fun c8 => ?_)
    ·
      refine a_lload_n X 3 d_Ws_endedBefore_49 rfl rfl ?_
      exact a_lret X d_Ws_endedBefore_50 (Nat.le_refl _) (Nat.le_refl _) ⟨by rw [show i = min 3 e by omega]; rfl, rfl⟩
    ·
      refine a_iload X d_Ws_endedBefore_11 rfl ?_
      refine a_iload_n X 1 d_Ws_endedBefore_13 rfl rfl ?_
      refine a_icmp_gtN X 49 (by omega) (by omega) d_Ws_endedBefore_14 (by decide) (fun c14 => ?_) (fun c14 => ?_)
      ·
        refine a_lload_n X 3 d_Ws_endedBefore_49 rfl rfl ?_
        exact a_lret X d_Ws_endedBefore_50 (Nat.le_refl _) (Nat.le_refl _) ⟨by rw [show i = min 3 e by omega]; rfl, rfl⟩
      ·
        refine a_lload_n X 3 d_Ws_endedBefore_17 rfl rfl ?_
        refine a_aload_n X 0 d_Ws_endedBefore_18 rfl rfl ?_
        refine a_get X ff_Ws_25 d_Ws_endedBefore_19 hq_15 rfl ?_
        refine a_iload_n X 1 d_Ws_endedBefore_22 rfl rfl ?_
        refine a_iload X d_Ws_endedBefore_23 rfl ?_
        refine a_isub X d_Ws_endedBefore_25 ?_
        refine ab_topi (pk_sub (by omega)) ?_
        refine a_aald X d_Ws_endedBefore_26 hq_46 rfl rfl (ab_ix_nI (by omega) (by decide)) (hg_en (by omega)) ?_
        refine a_iload_n X 2 d_Ws_endedBefore_27 rfl rfl ?_
        refine a_lald X d_Ws_endedBefore_28 (hr_en (by omega)) rfl (ab_ix_nI (by omega) (by decide)) ?_
        refine a_aload_n X 0 d_Ws_endedBefore_29 rfl rfl ?_
        refine a_iload_n X 1 d_Ws_endedBefore_30 rfl rfl ?_
        refine a_iload X d_Ws_endedBefore_31 rfl ?_
        refine a_isub X d_Ws_endedBefore_33 ?_
        refine ab_topi (pk_sub (by omega)) ?_
        refine a_iload X d_Ws_endedBefore_34 rfl ?_
        refine a_iload_n X 2 d_Ws_endedBefore_36 rfl rfl ?_
        refine a_callV X (a := 15) (As := [.int (nI _), .int (nI _), .int (nI _)]) hq_15 rfl fb_Ws_segment lk_Ws_75 im_Ws_segment se_Ws_segment (c_seg_w hw (by omega) (by omega) (by omega) (by omega)) rfl rfl (Nat.le_of_ble_eq_true rfl) (by decide) (by decide) (Nat.le_refl _) (Nat.le_refl _) d_Ws_endedBefore_37 (fun v h1 hp => ?_)
        obtain ⟨rfl, rfl⟩ := hp
        refine a_lmul X d_Ws_endedBefore_40 ?_
        refine ab_topl (lN_mul _ _) ?_
        refine a_ladd X d_Ws_endedBefore_41 ?_
        refine ab_topl (lN_add _ _) ?_
        refine a_lstore_n X 3 d_Ws_endedBefore_42 rfl (by decide) ?_
        refine a_incN X d_Ws_endedBefore_43 rfl (by decide) ?_
        refine a_goto X 5 d_Ws_endedBefore_46 (by decide) ?_
        refine ab_sub [(0, .ref 16), (1, .int (nI e)), (2, .int (nI st)), (3, .long (lN (sumR (fun y => w.2.2.2.2.1 (e - y) st * segR id s w.1 (e - y) y st) 1 (i + 1)))), (5, .int (nI (1 + (i + 1))))] rfl ?_
        exact ih (i + 1) (by omega) (by omega)
set_option maxHeartbeats 4000000 in
set_option maxRecDepth 20000 in
theorem c_sho_w {E : ab_E} {l : Launch} {r : hR} {s : hS} {w c : hW} {b : hB} {d : hD} {k : hK} {t : hT} {Z : List ab_C} (hw : ∀ i j, s.1 i j ≤ 4) {p st : Nat} (hp : p < 6) (hst : st < 4) (hs : ∀ i, i < 6 → r.1 i = -1 ∨ ∃ z, z < 4 ∧ r.1 i = nI z) : ab_Con E l y_Ws_showOf b_Ws_showOf 7 (some .long) 1 21 [.ref 16, .int (nI p), .int (nI st)] (hc r s w c b d k t ++ Z) 0 0 (fun v h1 => v = some (.long (lN (shoR id s r p st))) ∧ h1 = hc r s w c b d k t ++ Z) := by
  refine ab_con (own := "HiddenRows$WaySums") (ini := false) (by decide) (fun h => by cases h) rfl (Nat.le_of_ble_eq_true rfl) ?_
  intro G m X
  show ab_R E G m 7 0 0 0 [(0, .ref 16), (1, .int (nI p)), (2, .int (nI st))] [] (hc r s w c b d k t ++ Z)
  refine a_aload_n X 0 d_Ws_showOf_0 rfl rfl ?_
  refine a_get X ff_Ws_32 d_Ws_showOf_1 hq_15 rfl ?_
  refine a_get X ff_Ws_94 d_Ws_showOf_4 hq_1 rfl ?_
  refine a_iload_n X 1 d_Ws_showOf_7 rfl rfl ?_
  refine a_iald X d_Ws_showOf_8 hq_3 rfl (ab_ix_nI (by omega) (by decide)) ?_
  refine a_istore_n X 3 d_Ws_showOf_9 rfl (by decide) ?_
  refine a_iload_n X 3 d_Ws_showOf_10 rfl rfl ?_
  refine a_iconst X (v := -1) d_Ws_showOf_11 (by decide) ?_
  refine a_icmp_eq X 22 d_Ws_showOf_12 (by decide) (fun c12 => ?_) (fun c12 => ?_)
  ·
    have hno : ¬ (r.2.1 p ≠ -1 ∧ r.2.1 p ≠ nI st) := fun q => q.1 c12
    refine a_aload_n X 0 d_Ws_showOf_22 rfl rfl ?_
    refine a_get X ff_Ws_32 d_Ws_showOf_23 hq_15 rfl ?_
    refine a_get X ff_Ws_98 d_Ws_showOf_26 hq_1 rfl ?_
    refine a_iload_n X 1 d_Ws_showOf_29 rfl rfl ?_
    refine a_iald X d_Ws_showOf_30 hq_2 rfl (ab_ix_nI (by omega) (by decide)) ?_
    refine a_istore X d_Ws_showOf_31 (by decide) ?_
    refine a_iload X d_Ws_showOf_33 rfl ?_
    refine a_iconst X (v := -1) d_Ws_showOf_35 (by decide) ?_
    refine a_icmp_eq X 58 d_Ws_showOf_36 (by decide) (fun c36 => ?_) (fun c36 => ?_)
    ·
      refine a_iconst X (v := nI 0) d_Ws_showOf_58 (by decide) ?_
      refine a_istore X d_Ws_showOf_59 (by decide) ?_
      refine a_iconst X (v := nI 0) d_Ws_showOf_61 (by decide) ?_
      refine a_istore X d_Ws_showOf_62 (by decide) ?_
      refine ab_sub [(0, .ref 16), (1, .int (nI p)), (2, .int (nI st)), (5, .int (nI (sumR (fun y => s.1 st (5 + y)) 0 0))), (6, .int (nI 0))] rfl ?_
      suffices LP : ∀ (mm i : Nat), i ≤ 4 → 4 - i < mm → ab_R E G m 7 0 0 64 [(0, .ref 16), (1, .int (nI p)), (2, .int (nI st)), (5, .int (nI (sumR (fun y => s.1 st (5 + y)) 0 i))), (6, .int (nI i))] [] (hc r s w c b d k t ++ Z) from LP 5 0 (by omega) (by omega)
      intro mm
      induction mm with
      | zero => intro i h1 h2; exfalso; omega
      | succ mm ih =>
        intro i h1 h2
        refine a_iload X d_Ws_showOf_64 rfl ?_
        refine a_iconst X (v := nI 4) d_Ws_showOf_66 (by decide) ?_
        refine a_icmp_geN X 95 (by omega) (by omega) d_Ws_showOf_67 (by decide) (fun c67 => ?_) (fun c67 => ?_)
        ·
          refine a_aload_n X 0 d_Ws_showOf_95 rfl rfl ?_
          refine a_iload X d_Ws_showOf_96 rfl ?_
          refine a_callV X (a := 15) (As := [.int (nI _)]) hq_15 rfl fb_Ws_cut lk_Ws_71 im_Ws_cut se_Ws_cut (c_cut_w (by have := sumR_le (g := (fun y => s.1 st (5 + y))) (a := 0) (fun y => hw st (5 + y)) i; omega)) rfl rfl (Nat.le_of_ble_eq_true rfl) (by decide) (by decide) (Nat.le_refl _) (Nat.le_refl _) d_Ws_showOf_98 (fun v h1 hp => ?_)
          obtain ⟨rfl, rfl⟩ := hp
          exact a_lret X d_Ws_showOf_101 (Nat.le_refl _) (Nat.le_refl _) ⟨by unfold shoR; rw [if_neg hno, if_pos c36, show i = 4 by omega], rfl⟩
        ·
          refine a_iload X d_Ws_showOf_70 rfl ?_
          refine a_aload_n X 0 d_Ws_showOf_72 rfl rfl ?_
          refine a_get X ff_Ws_36 d_Ws_showOf_73 hq_15 rfl ?_
          refine a_get X ff_Ws_78 d_Ws_showOf_76 hq_4 rfl ?_
          refine a_iload_n X 2 d_Ws_showOf_79 rfl rfl ?_
          refine a_aald X d_Ws_showOf_80 hq_5 rfl rfl (ab_ix_nI (by omega) (by decide)) (hg_wt (by omega)) ?_
          refine a_iconst X (v := nI 5) d_Ws_showOf_81 (by decide) ?_
          refine a_iload X d_Ws_showOf_82 rfl ?_
          refine a_iadd X d_Ws_showOf_84 ?_
          refine ab_topi (nI_add _ _) ?_
          refine a_iald X d_Ws_showOf_85 (hr_wt (by omega)) rfl (ab_ix_nI (by omega) (by decide)) ?_
          refine a_iadd X d_Ws_showOf_86 ?_
          refine ab_topi (nI_add _ _) ?_
          refine ab_topi (congrArg nI (show _ = sumR (fun y => s.1 st (5 + y)) 0 (i + 1) from by show _ = sumR _ 0 i + s.1 st (5 + (0 + i)); rw [Nat.zero_add])) ?_
          refine a_istore X d_Ws_showOf_87 (by decide) ?_
          refine a_incN X d_Ws_showOf_89 rfl (by decide) ?_
          refine a_goto X 64 d_Ws_showOf_92 (by decide) ?_
          refine ab_sub [(0, .ref 16), (1, .int (nI p)), (2, .int (nI st)), (5, .int (nI (sumR (fun y => s.1 st (5 + y)) 0 (i + 1)))), (6, .int (nI (i + 1)))] rfl ?_
          exact ih (i + 1) (by omega) (by omega)
    ·
      obtain ⟨z, hz, hsg⟩ : ∃ z, z < 4 ∧ r.1 p = nI z := (hs p hp).resolve_left c36
      refine a_aload_n X 0 d_Ws_showOf_39 rfl rfl ?_
      refine a_aload_n X 0 d_Ws_showOf_40 rfl rfl ?_
      refine a_get X ff_Ws_36 d_Ws_showOf_41 hq_15 rfl ?_
      refine a_get X ff_Ws_78 d_Ws_showOf_44 hq_4 rfl ?_
      refine a_iload_n X 2 d_Ws_showOf_47 rfl rfl ?_
      refine a_aald X d_Ws_showOf_48 hq_5 rfl rfl (ab_ix_nI (by omega) (by decide)) (hg_wt (by omega)) ?_
      refine a_iconst X (v := nI 5) d_Ws_showOf_49 (by decide) ?_
      refine a_iload X d_Ws_showOf_50 rfl ?_
      refine a_iadd X d_Ws_showOf_52 ?_
      rw [hsg]
      refine ab_topi (nI_add _ _) ?_
      refine a_iald X d_Ws_showOf_53 (hr_wt (by omega)) rfl (ab_ix_nI (by omega) (by decide)) ?_
      refine a_callV X (a := 15) (As := [.int (nI _)]) hq_15 rfl fb_Ws_cut lk_Ws_71 im_Ws_cut se_Ws_cut (c_cut_w (by have := hw st (5 + z); omega)) rfl rfl (Nat.le_of_ble_eq_true rfl) (by decide) (by decide) (Nat.le_refl _) (Nat.le_refl _) d_Ws_showOf_54 (fun v h1 hp => ?_)
      obtain ⟨rfl, rfl⟩ := hp
      exact a_lret X d_Ws_showOf_57 (Nat.le_refl _) (Nat.le_refl _) ⟨by unfold shoR; rw [if_neg hno, if_neg c36, hsg, nI_clamp (by omega)], rfl⟩
  ·
    refine a_iload_n X 3 d_Ws_showOf_15 rfl rfl ?_
    refine a_iload_n X 2 d_Ws_showOf_16 rfl rfl ?_
    refine a_icmp_eq X 22 d_Ws_showOf_17 (by decide) (fun c17 => ?_) (fun c17 => ?_)
    ·
      have hno : ¬ (r.2.1 p ≠ -1 ∧ r.2.1 p ≠ nI st) := fun q => q.2 c17
      refine a_aload_n X 0 d_Ws_showOf_22 rfl rfl ?_
      refine a_get X ff_Ws_32 d_Ws_showOf_23 hq_15 rfl ?_
      refine a_get X ff_Ws_98 d_Ws_showOf_26 hq_1 rfl ?_
      refine a_iload_n X 1 d_Ws_showOf_29 rfl rfl ?_
      refine a_iald X d_Ws_showOf_30 hq_2 rfl (ab_ix_nI (by omega) (by decide)) ?_
      refine a_istore X d_Ws_showOf_31 (by decide) ?_
      refine a_iload X d_Ws_showOf_33 rfl ?_
      refine a_iconst X (v := -1) d_Ws_showOf_35 (by decide) ?_
      refine a_icmp_eq X 58 d_Ws_showOf_36 (by decide) (fun c36 => ?_) (fun c36 => ?_)
      ·
        refine a_iconst X (v := nI 0) d_Ws_showOf_58 (by decide) ?_
        refine a_istore X d_Ws_showOf_59 (by decide) ?_
        refine a_iconst X (v := nI 0) d_Ws_showOf_61 (by decide) ?_
        refine a_istore X d_Ws_showOf_62 (by decide) ?_
        refine ab_sub [(0, .ref 16), (1, .int (nI p)), (2, .int (nI st)), (5, .int (nI (sumR (fun y => s.1 st (5 + y)) 0 0))), (6, .int (nI 0))] rfl ?_
        suffices LP : ∀ (mm i : Nat), i ≤ 4 → 4 - i < mm → ab_R E G m 7 0 0 64 [(0, .ref 16), (1, .int (nI p)), (2, .int (nI st)), (5, .int (nI (sumR (fun y => s.1 st (5 + y)) 0 i))), (6, .int (nI i))] [] (hc r s w c b d k t ++ Z) from LP 5 0 (by omega) (by omega)
        intro mm
        induction mm with
        | zero => intro i h1 h2; exfalso; omega
        | succ mm ih =>
          intro i h1 h2
          refine a_iload X d_Ws_showOf_64 rfl ?_
          refine a_iconst X (v := nI 4) d_Ws_showOf_66 (by decide) ?_
          refine a_icmp_geN X 95 (by omega) (by omega) d_Ws_showOf_67 (by decide) (fun c67 => ?_) (fun c67 => ?_)
          ·
            refine a_aload_n X 0 d_Ws_showOf_95 rfl rfl ?_
            refine a_iload X d_Ws_showOf_96 rfl ?_
            refine a_callV X (a := 15) (As := [.int (nI _)]) hq_15 rfl fb_Ws_cut lk_Ws_71 im_Ws_cut se_Ws_cut (c_cut_w (by have := sumR_le (g := (fun y => s.1 st (5 + y))) (a := 0) (fun y => hw st (5 + y)) i; omega)) rfl rfl (Nat.le_of_ble_eq_true rfl) (by decide) (by decide) (Nat.le_refl _) (Nat.le_refl _) d_Ws_showOf_98 (fun v h1 hp => ?_)
            obtain ⟨rfl, rfl⟩ := hp
            exact a_lret X d_Ws_showOf_101 (Nat.le_refl _) (Nat.le_refl _) ⟨by unfold shoR; rw [if_neg hno, if_pos c36, show i = 4 by omega], rfl⟩
          ·
            refine a_iload X d_Ws_showOf_70 rfl ?_
            refine a_aload_n X 0 d_Ws_showOf_72 rfl rfl ?_
            refine a_get X ff_Ws_36 d_Ws_showOf_73 hq_15 rfl ?_
            refine a_get X ff_Ws_78 d_Ws_showOf_76 hq_4 rfl ?_
            refine a_iload_n X 2 d_Ws_showOf_79 rfl rfl ?_
            refine a_aald X d_Ws_showOf_80 hq_5 rfl rfl (ab_ix_nI (by omega) (by decide)) (hg_wt (by omega)) ?_
            refine a_iconst X (v := nI 5) d_Ws_showOf_81 (by decide) ?_
            refine a_iload X d_Ws_showOf_82 rfl ?_
            refine a_iadd X d_Ws_showOf_84 ?_
            refine ab_topi (nI_add _ _) ?_
            refine a_iald X d_Ws_showOf_85 (hr_wt (by omega)) rfl (ab_ix_nI (by omega) (by decide)) ?_
            refine a_iadd X d_Ws_showOf_86 ?_
            refine ab_topi (nI_add _ _) ?_
            refine ab_topi (congrArg nI (show _ = sumR (fun y => s.1 st (5 + y)) 0 (i + 1) from by show _ = sumR _ 0 i + s.1 st (5 + (0 + i)); rw [Nat.zero_add])) ?_
            refine a_istore X d_Ws_showOf_87 (by decide) ?_
            refine a_incN X d_Ws_showOf_89 rfl (by decide) ?_
            refine a_goto X 64 d_Ws_showOf_92 (by decide) ?_
            refine ab_sub [(0, .ref 16), (1, .int (nI p)), (2, .int (nI st)), (5, .int (nI (sumR (fun y => s.1 st (5 + y)) 0 (i + 1)))), (6, .int (nI (i + 1)))] rfl ?_
            exact ih (i + 1) (by omega) (by omega)
      ·
        obtain ⟨z, hz, hsg⟩ : ∃ z, z < 4 ∧ r.1 p = nI z := (hs p hp).resolve_left c36
        refine a_aload_n X 0 d_Ws_showOf_39 rfl rfl ?_
        refine a_aload_n X 0 d_Ws_showOf_40 rfl rfl ?_
        refine a_get X ff_Ws_36 d_Ws_showOf_41 hq_15 rfl ?_
        refine a_get X ff_Ws_78 d_Ws_showOf_44 hq_4 rfl ?_
        refine a_iload_n X 2 d_Ws_showOf_47 rfl rfl ?_
        refine a_aald X d_Ws_showOf_48 hq_5 rfl rfl (ab_ix_nI (by omega) (by decide)) (hg_wt (by omega)) ?_
        refine a_iconst X (v := nI 5) d_Ws_showOf_49 (by decide) ?_
        refine a_iload X d_Ws_showOf_50 rfl ?_
        refine a_iadd X d_Ws_showOf_52 ?_
        rw [hsg]
        refine ab_topi (nI_add _ _) ?_
        refine a_iald X d_Ws_showOf_53 (hr_wt (by omega)) rfl (ab_ix_nI (by omega) (by decide)) ?_
        refine a_callV X (a := 15) (As := [.int (nI _)]) hq_15 rfl fb_Ws_cut lk_Ws_71 im_Ws_cut se_Ws_cut (c_cut_w (by have := hw st (5 + z); omega)) rfl rfl (Nat.le_of_ble_eq_true rfl) (by decide) (by decide) (Nat.le_refl _) (Nat.le_refl _) d_Ws_showOf_54 (fun v h1 hp => ?_)
        obtain ⟨rfl, rfl⟩ := hp
        exact a_lret X d_Ws_showOf_57 (Nat.le_refl _) (Nat.le_refl _) ⟨by unfold shoR; rw [if_neg hno, if_neg c36, hsg, nI_clamp (by omega)], rfl⟩
    ·
      refine a_lconst X (v := lN 0) d_Ws_showOf_20 (by decide) ?_
      exact a_lret X d_Ws_showOf_21 (Nat.le_refl _) (Nat.le_refl _) ⟨by unfold shoR; rw [if_pos ⟨c12, c17⟩], rfl⟩
set_option maxHeartbeats 4000000 in
set_option maxRecDepth 20000 in
theorem c_lon_c {E : ab_E} {l : Launch} {r : hR} {s : hS} {w c : hW} {b : hB} {d : hD} {k : hK} {t : hT} {Z : List ab_C} (hw : ∀ i j, s.1 i j ≤ 4) {x bg st : Nat} (hn : r.2.2 ≤ 6) (hx : x ≤ 3) (hbg : bg ≤ r.2.2) (hst : st < 4) : ab_Con E l y_Ws_longerThan b_Ws_longerThan 7 (some .long) 2 47 [.ref 54, .int (nI x), .int (nI bg), .int (nI st)] (hc r s w c b d k t ++ Z) 0 0 (fun v h1 => v = some (.long (lN (lonR cuC s r.2.2 c.1 c.2.2.1 x bg st))) ∧ h1 = hc r s w c b d k t ++ Z) := by
  refine ab_con (own := "HiddenRows$WaySums") (ini := false) (by decide) (fun h => by cases h) rfl (Nat.le_of_ble_eq_true rfl) ?_
  intro G m X
  show ab_R E G m 7 0 0 0 [(0, .ref 54), (1, .int (nI x)), (2, .int (nI bg)), (3, .int (nI st))] [] (hc r s w c b d k t ++ Z)
  refine a_lconst X (v := lN 0) d_Ws_longerThan_0 (by decide) ?_
  refine a_lstore X d_Ws_longerThan_1 (by decide) ?_
  refine a_iload_n X 1 d_Ws_longerThan_3 rfl rfl ?_
  refine a_iconst X (v := nI 1) d_Ws_longerThan_4 (by decide) ?_
  refine a_iadd X d_Ws_longerThan_5 ?_
  refine ab_topi (nI_add _ _) ?_
  refine a_istore X d_Ws_longerThan_6 (by decide) ?_
  refine ab_sub [(0, .ref 54), (1, .int (nI x)), (2, .int (nI bg)), (3, .int (nI st)), (4, .long (lN (sumR (fun y => segR cuC s c.1 bg y st * c.2.2.1 (bg + y) st) (x + 1) 0))), (6, .int (nI (x + 1 + 0)))] rfl ?_
  suffices LP : ∀ (mm i : Nat), i ≤ (min 3 (r.2.2 - bg) - x) → (min 3 (r.2.2 - bg) - x) - i < mm → ab_R E G m 7 0 0 8 [(0, .ref 54), (1, .int (nI x)), (2, .int (nI bg)), (3, .int (nI st)), (4, .long (lN (sumR (fun y => segR cuC s c.1 bg y st * c.2.2.1 (bg + y) st) (x + 1) i))), (6, .int (nI (x + 1 + i)))] [] (hc r s w c b d k t ++ Z) from LP ((min 3 (r.2.2 - bg) - x) + 1) 0 (by omega) (by omega)
  intro mm
  induction mm with
  | zero => intro i h1 h2; exfalso; omega
  | succ mm ih =>
    intro i h1 h2
    refine a_iload X d_Ws_longerThan_8 rfl ?_
    refine a_iconst X (v := nI 3) d_Ws_longerThan_10 (by decide) ?_
    refine a_icmp_gtN X 59 (by omega) (by omega) d_Ws_longerThan_11 (by decide) (fun c11 => ?_) (fun c11 => ?_)
    ·
      refine a_lload X d_Ws_longerThan_59 rfl ?_
      exact a_lret X d_Ws_longerThan_61 (Nat.le_refl _) (Nat.le_refl _) ⟨by rw [show i = (min 3 (r.2.2 - bg) - x) by omega]; rfl, rfl⟩
    ·
      refine a_iload_n X 2 d_Ws_longerThan_14 rfl rfl ?_
      refine a_iload X d_Ws_longerThan_15 rfl ?_
      refine a_iadd X d_Ws_longerThan_17 ?_
      refine ab_topi (nI_add _ _) ?_
      refine a_aload_n X 0 d_Ws_longerThan_18 rfl rfl ?_
      refine a_get X ff_Ws_32 d_Ws_longerThan_19 hq_53 rfl ?_
      refine a_get X ff_Ws_47 d_Ws_longerThan_22 hq_1 rfl ?_
      refine a_icmp_gtN X 59 (by omega) (by omega) d_Ws_longerThan_25 (by decide) (fun c25 => ?_) (fun c25 => ?_)
      ·
        refine a_lload X d_Ws_longerThan_59 rfl ?_
        exact a_lret X d_Ws_longerThan_61 (Nat.le_refl _) (Nat.le_refl _) ⟨by rw [show i = (min 3 (r.2.2 - bg) - x) by omega]; rfl, rfl⟩
      ·
        refine a_lload X d_Ws_longerThan_28 rfl ?_
        refine a_aload_n X 0 d_Ws_longerThan_30 rfl rfl ?_
        refine a_iload_n X 2 d_Ws_longerThan_31 rfl rfl ?_
        refine a_iload X d_Ws_longerThan_32 rfl ?_
        refine a_iload_n X 3 d_Ws_longerThan_34 rfl rfl ?_
        refine a_callV X (a := 53) (As := [.int (nI _), .int (nI _), .int (nI _)]) hq_53 rfl fb_Ws_segment lk_Ws_75 im_Ws_segment se_Ws_segment (c_seg_c hw (by omega) (by omega) (by omega) (by omega)) rfl rfl (Nat.le_of_ble_eq_true rfl) (by decide) (by decide) (Nat.le_refl _) (Nat.le_refl _) d_Ws_longerThan_35 (fun v h1 hp => ?_)
        obtain ⟨rfl, rfl⟩ := hp
        refine a_aload_n X 0 d_Ws_longerThan_38 rfl rfl ?_
        refine a_get X ff_Ws_19 d_Ws_longerThan_39 hq_53 rfl ?_
        refine a_iload_n X 2 d_Ws_longerThan_42 rfl rfl ?_
        refine a_iload X d_Ws_longerThan_43 rfl ?_
        refine a_iadd X d_Ws_longerThan_45 ?_
        refine ab_topi (nI_add _ _) ?_
        refine a_aald X d_Ws_longerThan_46 hq_68 rfl rfl (ab_ix_nI (by omega) (by decide)) (hg_cle (by omega)) ?_
        refine a_iload_n X 3 d_Ws_longerThan_47 rfl rfl ?_
        refine a_lald X d_Ws_longerThan_48 (hr_cle (by omega)) rfl (ab_ix_nI (by omega) (by decide)) ?_
        refine a_lmul X d_Ws_longerThan_49 ?_
        refine ab_topl (lN_mul _ _) ?_
        refine a_ladd X d_Ws_longerThan_50 ?_
        refine ab_topl (lN_add _ _) ?_
        refine a_lstore X d_Ws_longerThan_51 (by decide) ?_
        refine a_incN X d_Ws_longerThan_53 rfl (by decide) ?_
        refine a_goto X 8 d_Ws_longerThan_56 (by decide) ?_
        refine ab_sub [(0, .ref 54), (1, .int (nI x)), (2, .int (nI bg)), (3, .int (nI st)), (4, .long (lN (sumR (fun y => segR cuC s c.1 bg y st * c.2.2.1 (bg + y) st) (x + 1) (i + 1)))), (6, .int (nI (x + 1 + (i + 1))))] rfl ?_
        exact ih (i + 1) (by omega) (by omega)
set_option maxHeartbeats 4000000 in
set_option maxRecDepth 20000 in
theorem c_out_c {E : ab_E} {l : Launch} {r : hR} {s : hS} {w c : hW} {b : hB} {d : hD} {k : hK} {t : hT} {Z : List ab_C} (hm : ∀ i j, s.2.1 i j ≤ 4) {p st : Nat} (hq : s.2.2 ≤ 4) (hp : p < 6) (hst : st < 4) : ab_Con E l y_Ws_movedOutOf b_Ws_movedOutOf 6 (some .long) 1 21 [.ref 54, .int (nI p), .int (nI st)] (hc r s w c b d k t ++ Z) 0 0 (fun v h1 => v = some (.long (lN (outR cuC s c.2.1 p st))) ∧ h1 = hc r s w c b d k t ++ Z) := by
  refine ab_con (own := "HiddenRows$WaySums") (ini := false) (by decide) (fun h => by cases h) rfl (Nat.le_of_ble_eq_true rfl) ?_
  intro G m X
  show ab_R E G m 6 0 0 0 [(0, .ref 54), (1, .int (nI p)), (2, .int (nI st))] [] (hc r s w c b d k t ++ Z)
  refine a_lconst X (v := lN 0) d_Ws_movedOutOf_0 (by decide) ?_
  refine a_lstore_n X 3 d_Ws_movedOutOf_1 rfl (by decide) ?_
  refine a_iconst X (v := nI 0) d_Ws_movedOutOf_2 (by decide) ?_
  refine a_istore X d_Ws_movedOutOf_3 (by decide) ?_
  refine ab_sub [(0, .ref 54), (1, .int (nI p)), (2, .int (nI st)), (3, .long (lN (sumR (fun y => cuC (s.2.1 st y) * c.2.1 p y) 0 0))), (5, .int (nI 0))] rfl ?_
  suffices LP : ∀ (mm i : Nat), i ≤ s.2.2 → s.2.2 - i < mm → ab_R E G m 6 0 0 5 [(0, .ref 54), (1, .int (nI p)), (2, .int (nI st)), (3, .long (lN (sumR (fun y => cuC (s.2.1 st y) * c.2.1 p y) 0 i))), (5, .int (nI i))] [] (hc r s w c b d k t ++ Z) from LP (s.2.2 + 1) 0 (by omega) (by omega)
  intro mm
  induction mm with
  | zero => intro i h1 h2; exfalso; omega
  | succ mm ih =>
    intro i h1 h2
    refine a_iload X d_Ws_movedOutOf_5 rfl ?_
    refine a_aload_n X 0 d_Ws_movedOutOf_7 rfl rfl ?_
    refine a_get X ff_Ws_36 d_Ws_movedOutOf_8 hq_53 rfl ?_
    refine a_get X ff_Ws_52 d_Ws_movedOutOf_11 hq_4 rfl ?_
    refine a_icmp_geN X 52 (by omega) (by omega) d_Ws_movedOutOf_14 (by decide) (fun c14 => ?_) (fun c14 => ?_)
    ·
      refine a_lload_n X 3 d_Ws_movedOutOf_52 rfl rfl ?_
      exact a_lret X d_Ws_movedOutOf_53 (Nat.le_refl _) (Nat.le_refl _) ⟨by rw [show i = s.2.2 by omega]; rfl, rfl⟩
    ·
      refine a_lload_n X 3 d_Ws_movedOutOf_17 rfl rfl ?_
      refine a_aload_n X 0 d_Ws_movedOutOf_18 rfl rfl ?_
      refine a_aload_n X 0 d_Ws_movedOutOf_19 rfl rfl ?_
      refine a_get X ff_Ws_36 d_Ws_movedOutOf_20 hq_53 rfl ?_
      refine a_get X ff_Ws_67 d_Ws_movedOutOf_23 hq_4 rfl ?_
      refine a_iload_n X 2 d_Ws_movedOutOf_26 rfl rfl ?_
      refine a_aald X d_Ws_movedOutOf_27 hq_10 rfl rfl (ab_ix_nI (by omega) (by decide)) (hg_mv (by omega)) ?_
      refine a_iload X d_Ws_movedOutOf_28 rfl ?_
      refine a_iald X d_Ws_movedOutOf_30 (hr_mv (by omega)) rfl (ab_ix_nI (by omega) (by decide)) ?_
      refine a_callV X (a := 53) (As := [.int (nI _)]) hq_53 rfl fb_Ws_cut lk_Ws_71 im_Ws_cut se_Ws_cut (c_cut_c (by have := hm st i; omega)) rfl rfl (Nat.le_of_ble_eq_true rfl) (by decide) (by decide) (Nat.le_refl _) (Nat.le_refl _) d_Ws_movedOutOf_31 (fun v h1 hp => ?_)
      obtain ⟨rfl, rfl⟩ := hp
      refine a_aload_n X 0 d_Ws_movedOutOf_34 rfl rfl ?_
      refine a_get X ff_Ws_16 d_Ws_movedOutOf_35 hq_53 rfl ?_
      refine a_iload_n X 1 d_Ws_movedOutOf_38 rfl rfl ?_
      refine a_aald X d_Ws_movedOutOf_39 hq_61 rfl rfl (ab_ix_nI (by omega) (by decide)) (hg_cfr (by omega)) ?_
      refine a_iload X d_Ws_movedOutOf_40 rfl ?_
      refine a_lald X d_Ws_movedOutOf_42 (hr_cfr (by omega)) rfl (ab_ix_nI (by omega) (by decide)) ?_
      refine a_lmul X d_Ws_movedOutOf_43 ?_
      refine ab_topl (lN_mul _ _) ?_
      refine a_ladd X d_Ws_movedOutOf_44 ?_
      refine ab_topl (lN_add _ _) ?_
      refine ab_topl (congrArg lN (show _ = sumR (fun y => cuC (s.2.1 st y) * c.2.1 p y) 0 (i + 1) from by show _ = sumR _ 0 i + _ * _; rw [Nat.zero_add])) ?_
      refine a_lstore_n X 3 d_Ws_movedOutOf_45 rfl (by decide) ?_
      refine a_incN X d_Ws_movedOutOf_46 rfl (by decide) ?_
      refine a_goto X 5 d_Ws_movedOutOf_49 (by decide) ?_
      refine ab_sub [(0, .ref 54), (1, .int (nI p)), (2, .int (nI st)), (3, .long (lN (sumR (fun y => cuC (s.2.1 st y) * c.2.1 p y) 0 (i + 1)))), (5, .int (nI (i + 1)))] rfl ?_
      exact ih (i + 1) (by omega) (by omega)
set_option maxHeartbeats 4000000 in
set_option maxRecDepth 20000 in
theorem c_int_c {E : ab_E} {l : Launch} {r : hR} {s : hS} {w c : hW} {b : hB} {d : hD} {k : hK} {t : hT} {Z : List ab_C} (hm : ∀ i j, s.2.1 i j ≤ 4) {p st : Nat} (hq : s.2.2 ≤ 4) (hp : p < 7) (hst : st < 4) : ab_Con E l y_Ws_movedInto b_Ws_movedInto 6 (some .long) 1 21 [.ref 54, .int (nI p), .int (nI st)] (hc r s w c b d k t ++ Z) 0 0 (fun v h1 => v = some (.long (lN (intR cuC s c.2.2.2.1 p st))) ∧ h1 = hc r s w c b d k t ++ Z) := by
  refine ab_con (own := "HiddenRows$WaySums") (ini := false) (by decide) (fun h => by cases h) rfl (Nat.le_of_ble_eq_true rfl) ?_
  intro G m X
  show ab_R E G m 6 0 0 0 [(0, .ref 54), (1, .int (nI p)), (2, .int (nI st))] [] (hc r s w c b d k t ++ Z)
  refine a_lconst X (v := lN 0) d_Ws_movedInto_0 (by decide) ?_
  refine a_lstore_n X 3 d_Ws_movedInto_1 rfl (by decide) ?_
  refine a_iconst X (v := nI 0) d_Ws_movedInto_2 (by decide) ?_
  refine a_istore X d_Ws_movedInto_3 (by decide) ?_
  refine ab_sub [(0, .ref 54), (1, .int (nI p)), (2, .int (nI st)), (3, .long (lN (sumR (fun y => c.2.2.2.1 p y * cuC (s.2.1 y st)) 0 0))), (5, .int (nI 0))] rfl ?_
  suffices LP : ∀ (mm i : Nat), i ≤ s.2.2 → s.2.2 - i < mm → ab_R E G m 6 0 0 5 [(0, .ref 54), (1, .int (nI p)), (2, .int (nI st)), (3, .long (lN (sumR (fun y => c.2.2.2.1 p y * cuC (s.2.1 y st)) 0 i))), (5, .int (nI i))] [] (hc r s w c b d k t ++ Z) from LP (s.2.2 + 1) 0 (by omega) (by omega)
  intro mm
  induction mm with
  | zero => intro i h1 h2; exfalso; omega
  | succ mm ih =>
    intro i h1 h2
    refine a_iload X d_Ws_movedInto_5 rfl ?_
    refine a_aload_n X 0 d_Ws_movedInto_7 rfl rfl ?_
    refine a_get X ff_Ws_36 d_Ws_movedInto_8 hq_53 rfl ?_
    refine a_get X ff_Ws_52 d_Ws_movedInto_11 hq_4 rfl ?_
    refine a_icmp_geN X 52 (by omega) (by omega) d_Ws_movedInto_14 (by decide) (fun c14 => ?_) (fun c14 => ?_)
    ·
      refine a_lload_n X 3 d_Ws_movedInto_52 rfl rfl ?_
      exact a_lret X d_Ws_movedInto_53 (Nat.le_refl _) (Nat.le_refl _) ⟨by rw [show i = s.2.2 by omega]; rfl, rfl⟩
    ·
      refine a_lload_n X 3 d_Ws_movedInto_17 rfl rfl ?_
      refine a_aload_n X 0 d_Ws_movedInto_18 rfl rfl ?_
      refine a_get X ff_Ws_22 d_Ws_movedInto_19 hq_53 rfl ?_
      refine a_iload_n X 1 d_Ws_movedInto_22 rfl rfl ?_
      refine a_aald X d_Ws_movedInto_23 hq_76 rfl rfl (ab_ix_nI (by omega) (by decide)) (hg_cup (by omega)) ?_
      refine a_iload X d_Ws_movedInto_24 rfl ?_
      refine a_lald X d_Ws_movedInto_26 (hr_cup (by omega)) rfl (ab_ix_nI (by omega) (by decide)) ?_
      refine a_aload_n X 0 d_Ws_movedInto_27 rfl rfl ?_
      refine a_aload_n X 0 d_Ws_movedInto_28 rfl rfl ?_
      refine a_get X ff_Ws_36 d_Ws_movedInto_29 hq_53 rfl ?_
      refine a_get X ff_Ws_67 d_Ws_movedInto_32 hq_4 rfl ?_
      refine a_iload X d_Ws_movedInto_35 rfl ?_
      refine a_aald X d_Ws_movedInto_37 hq_10 rfl rfl (ab_ix_nI (by omega) (by decide)) (hg_mv (by omega)) ?_
      refine a_iload_n X 2 d_Ws_movedInto_38 rfl rfl ?_
      refine a_iald X d_Ws_movedInto_39 (hr_mv (by omega)) rfl (ab_ix_nI (by omega) (by decide)) ?_
      refine a_callV X (a := 53) (As := [.int (nI _)]) hq_53 rfl fb_Ws_cut lk_Ws_71 im_Ws_cut se_Ws_cut (c_cut_c (by have := hm i st; omega)) rfl rfl (Nat.le_of_ble_eq_true rfl) (by decide) (by decide) (Nat.le_refl _) (Nat.le_refl _) d_Ws_movedInto_40 (fun v h1 hp => ?_)
      obtain ⟨rfl, rfl⟩ := hp
      refine a_lmul X d_Ws_movedInto_43 ?_
      refine ab_topl (lN_mul _ _) ?_
      refine a_ladd X d_Ws_movedInto_44 ?_
      refine ab_topl (lN_add _ _) ?_
      refine ab_topl (congrArg lN (show _ = sumR (fun y => c.2.2.2.1 p y * cuC (s.2.1 y st)) 0 (i + 1) from by show _ = sumR _ 0 i + _ * _; rw [Nat.zero_add])) ?_
      refine a_lstore_n X 3 d_Ws_movedInto_45 rfl (by decide) ?_
      refine a_incN X d_Ws_movedInto_46 rfl (by decide) ?_
      refine a_goto X 5 d_Ws_movedInto_49 (by decide) ?_
      refine ab_sub [(0, .ref 54), (1, .int (nI p)), (2, .int (nI st)), (3, .long (lN (sumR (fun y => c.2.2.2.1 p y * cuC (s.2.1 y st)) 0 (i + 1)))), (5, .int (nI (i + 1)))] rfl ?_
      exact ih (i + 1) (by omega) (by omega)
set_option maxHeartbeats 4000000 in
set_option maxRecDepth 20000 in
theorem c_end_c {E : ab_E} {l : Launch} {r : hR} {s : hS} {w c : hW} {b : hB} {d : hD} {k : hK} {t : hT} {Z : List ab_C} (hw : ∀ i j, s.1 i j ≤ 4) {e st : Nat} (he : e ≤ 6) (hst : st < 4) : ab_Con E l y_Ws_endedBefore b_Ws_endedBefore 6 (some .long) 2 47 [.ref 54, .int (nI e), .int (nI st)] (hc r s w c b d k t ++ Z) 0 0 (fun v h1 => v = some (.long (lN (endR cuC s c.1 c.2.2.2.2.1 e st))) ∧ h1 = hc r s w c b d k t ++ Z) := by
  refine ab_con (own := "HiddenRows$WaySums") (ini := false) (by decide) (fun h => by cases h) rfl (Nat.le_of_ble_eq_true rfl) ?_
  intro G m X
  show ab_R E G m 6 0 0 0 [(0, .ref 54), (1, .int (nI e)), (2, .int (nI st))] [] (hc r s w c b d k t ++ Z)
  refine a_lconst X (v := lN 0) d_Ws_endedBefore_0 (by decide) ?_
  refine a_lstore_n X 3 d_Ws_endedBefore_1 rfl (by decide) ?_
  refine a_iconst X (v := nI 1) d_Ws_endedBefore_2 (by decide) ?_
  refine a_istore X d_Ws_endedBefore_3 (by decide) ?_
  refine ab_sub [(0, .ref 54), (1, .int (nI e)), (2, .int (nI st)), (3, .long (lN (sumR (fun y => c.2.2.2.2.1 (e - y) st * segR cuC s c.1 (e - y) y st) 1 0))), (5, .int (nI (1 + 0)))] rfl ?_
  suffices LP : ∀ (mm i : Nat), i ≤ (min 3 e) → (min 3 e) - i < mm → ab_R E G m 6 0 0 5 [(0, .ref 54), (1, .int (nI e)), (2, .int (nI st)), (3, .long (lN (sumR (fun y => c.2.2.2.2.1 (e - y) st * segR cuC s c.1 (e - y) y st) 1 i))), (5, .int (nI (1 + i)))] [] (hc r s w c b d k t ++ Z) from LP ((min 3 e) + 1) 0 (by omega) (by omega)
  intro mm
  induction mm with
  | zero => intro i h1 h2; exfalso; omega
  | succ mm ih =>
    intro i h1 h2
    refine a_iload X d_Ws_endedBefore_5 rfl ?_
    refine a_iconst X (v := nI 3) d_Ws_endedBefore_7 (by decide) ?_
    refine a_icmp_gtN X 49 (by omega) (by omega) d_Ws_endedBefore_8 (by decide) (fun c8 => ?_) (fun c8 => ?_)
    ·
      refine a_lload_n X 3 d_Ws_endedBefore_49 rfl rfl ?_
      exact a_lret X d_Ws_endedBefore_50 (Nat.le_refl _) (Nat.le_refl _) ⟨by rw [show i = min 3 e by omega]; rfl, rfl⟩
    ·
      refine a_iload X d_Ws_endedBefore_11 rfl ?_
      refine a_iload_n X 1 d_Ws_endedBefore_13 rfl rfl ?_
      refine a_icmp_gtN X 49 (by omega) (by omega) d_Ws_endedBefore_14 (by decide) (fun c14 => ?_) (fun c14 => ?_)
      ·
        refine a_lload_n X 3 d_Ws_endedBefore_49 rfl rfl ?_
        exact a_lret X d_Ws_endedBefore_50 (Nat.le_refl _) (Nat.le_refl _) ⟨by rw [show i = min 3 e by omega]; rfl, rfl⟩
      ·
        refine a_lload_n X 3 d_Ws_endedBefore_17 rfl rfl ?_
        refine a_aload_n X 0 d_Ws_endedBefore_18 rfl rfl ?_
        refine a_get X ff_Ws_25 d_Ws_endedBefore_19 hq_53 rfl ?_
        refine a_iload_n X 1 d_Ws_endedBefore_22 rfl rfl ?_
        refine a_iload X d_Ws_endedBefore_23 rfl ?_
        refine a_isub X d_Ws_endedBefore_25 ?_
        refine ab_topi (pk_sub (by omega)) ?_
        refine a_aald X d_Ws_endedBefore_26 hq_84 rfl rfl (ab_ix_nI (by omega) (by decide)) (hg_cen (by omega)) ?_
        refine a_iload_n X 2 d_Ws_endedBefore_27 rfl rfl ?_
        refine a_lald X d_Ws_endedBefore_28 (hr_cen (by omega)) rfl (ab_ix_nI (by omega) (by decide)) ?_
        refine a_aload_n X 0 d_Ws_endedBefore_29 rfl rfl ?_
        refine a_iload_n X 1 d_Ws_endedBefore_30 rfl rfl ?_
        refine a_iload X d_Ws_endedBefore_31 rfl ?_
        refine a_isub X d_Ws_endedBefore_33 ?_
        refine ab_topi (pk_sub (by omega)) ?_
        refine a_iload X d_Ws_endedBefore_34 rfl ?_
        refine a_iload_n X 2 d_Ws_endedBefore_36 rfl rfl ?_
        refine a_callV X (a := 53) (As := [.int (nI _), .int (nI _), .int (nI _)]) hq_53 rfl fb_Ws_segment lk_Ws_75 im_Ws_segment se_Ws_segment (c_seg_c hw (by omega) (by omega) (by omega) (by omega)) rfl rfl (Nat.le_of_ble_eq_true rfl) (by decide) (by decide) (Nat.le_refl _) (Nat.le_refl _) d_Ws_endedBefore_37 (fun v h1 hp => ?_)
        obtain ⟨rfl, rfl⟩ := hp
        refine a_lmul X d_Ws_endedBefore_40 ?_
        refine ab_topl (lN_mul _ _) ?_
        refine a_ladd X d_Ws_endedBefore_41 ?_
        refine ab_topl (lN_add _ _) ?_
        refine a_lstore_n X 3 d_Ws_endedBefore_42 rfl (by decide) ?_
        refine a_incN X d_Ws_endedBefore_43 rfl (by decide) ?_
        refine a_goto X 5 d_Ws_endedBefore_46 (by decide) ?_
        refine ab_sub [(0, .ref 54), (1, .int (nI e)), (2, .int (nI st)), (3, .long (lN (sumR (fun y => c.2.2.2.2.1 (e - y) st * segR cuC s c.1 (e - y) y st) 1 (i + 1)))), (5, .int (nI (1 + (i + 1))))] rfl ?_
        exact ih (i + 1) (by omega) (by omega)
set_option maxHeartbeats 4000000 in
set_option maxRecDepth 20000 in
theorem c_sho_c {E : ab_E} {l : Launch} {r : hR} {s : hS} {w c : hW} {b : hB} {d : hD} {k : hK} {t : hT} {Z : List ab_C} (hw : ∀ i j, s.1 i j ≤ 4) {p st : Nat} (hp : p < 6) (hst : st < 4) (hs : ∀ i, i < 6 → r.1 i = -1 ∨ ∃ z, z < 4 ∧ r.1 i = nI z) : ab_Con E l y_Ws_showOf b_Ws_showOf 7 (some .long) 1 21 [.ref 54, .int (nI p), .int (nI st)] (hc r s w c b d k t ++ Z) 0 0 (fun v h1 => v = some (.long (lN (shoR cuC s r p st))) ∧ h1 = hc r s w c b d k t ++ Z) := by
  refine ab_con (own := "HiddenRows$WaySums") (ini := false) (by decide) (fun h => by cases h) rfl (Nat.le_of_ble_eq_true rfl) ?_
  intro G m X
  show ab_R E G m 7 0 0 0 [(0, .ref 54), (1, .int (nI p)), (2, .int (nI st))] [] (hc r s w c b d k t ++ Z)
  refine a_aload_n X 0 d_Ws_showOf_0 rfl rfl ?_
  refine a_get X ff_Ws_32 d_Ws_showOf_1 hq_53 rfl ?_
  refine a_get X ff_Ws_94 d_Ws_showOf_4 hq_1 rfl ?_
  refine a_iload_n X 1 d_Ws_showOf_7 rfl rfl ?_
  refine a_iald X d_Ws_showOf_8 hq_3 rfl (ab_ix_nI (by omega) (by decide)) ?_
  refine a_istore_n X 3 d_Ws_showOf_9 rfl (by decide) ?_
  refine a_iload_n X 3 d_Ws_showOf_10 rfl rfl ?_
  refine a_iconst X (v := -1) d_Ws_showOf_11 (by decide) ?_
  refine a_icmp_eq X 22 d_Ws_showOf_12 (by decide) (fun c12 => ?_) (fun c12 => ?_)
  ·
    have hno : ¬ (r.2.1 p ≠ -1 ∧ r.2.1 p ≠ nI st) := fun q => q.1 c12
    refine a_aload_n X 0 d_Ws_showOf_22 rfl rfl ?_
    refine a_get X ff_Ws_32 d_Ws_showOf_23 hq_53 rfl ?_
    refine a_get X ff_Ws_98 d_Ws_showOf_26 hq_1 rfl ?_
    refine a_iload_n X 1 d_Ws_showOf_29 rfl rfl ?_
    refine a_iald X d_Ws_showOf_30 hq_2 rfl (ab_ix_nI (by omega) (by decide)) ?_
    refine a_istore X d_Ws_showOf_31 (by decide) ?_
    refine a_iload X d_Ws_showOf_33 rfl ?_
    refine a_iconst X (v := -1) d_Ws_showOf_35 (by decide) ?_
    refine a_icmp_eq X 58 d_Ws_showOf_36 (by decide) (fun c36 => ?_) (fun c36 => ?_)
    ·
      refine a_iconst X (v := nI 0) d_Ws_showOf_58 (by decide) ?_
      refine a_istore X d_Ws_showOf_59 (by decide) ?_
      refine a_iconst X (v := nI 0) d_Ws_showOf_61 (by decide) ?_
      refine a_istore X d_Ws_showOf_62 (by decide) ?_
      refine ab_sub [(0, .ref 54), (1, .int (nI p)), (2, .int (nI st)), (5, .int (nI (sumR (fun y => s.1 st (5 + y)) 0 0))), (6, .int (nI 0))] rfl ?_
      suffices LP : ∀ (mm i : Nat), i ≤ 4 → 4 - i < mm → ab_R E G m 7 0 0 64 [(0, .ref 54), (1, .int (nI p)), (2, .int (nI st)), (5, .int (nI (sumR (fun y => s.1 st (5 + y)) 0 i))), (6, .int (nI i))] [] (hc r s w c b d k t ++ Z) from LP 5 0 (by omega) (by omega)
      intro mm
      induction mm with
      | zero => intro i h1 h2; exfalso; omega
      | succ mm ih =>
        intro i h1 h2
        refine a_iload X d_Ws_showOf_64 rfl ?_
        refine a_iconst X (v := nI 4) d_Ws_showOf_66 (by decide) ?_
        refine a_icmp_geN X 95 (by omega) (by omega) d_Ws_showOf_67 (by decide) (fun c67 => ?_) (fun c67 => ?_)
        ·
          refine a_aload_n X 0 d_Ws_showOf_95 rfl rfl ?_
          refine a_iload X d_Ws_showOf_96 rfl ?_
          refine a_callV X (a := 53) (As := [.int (nI _)]) hq_53 rfl fb_Ws_cut lk_Ws_71 im_Ws_cut se_Ws_cut (c_cut_c (by have := sumR_le (g := (fun y => s.1 st (5 + y))) (a := 0) (fun y => hw st (5 + y)) i; omega)) rfl rfl (Nat.le_of_ble_eq_true rfl) (by decide) (by decide) (Nat.le_refl _) (Nat.le_refl _) d_Ws_showOf_98 (fun v h1 hp => ?_)
          obtain ⟨rfl, rfl⟩ := hp
          exact a_lret X d_Ws_showOf_101 (Nat.le_refl _) (Nat.le_refl _) ⟨by unfold shoR; rw [if_neg hno, if_pos c36, show i = 4 by omega], rfl⟩
        ·
          refine a_iload X d_Ws_showOf_70 rfl ?_
          refine a_aload_n X 0 d_Ws_showOf_72 rfl rfl ?_
          refine a_get X ff_Ws_36 d_Ws_showOf_73 hq_53 rfl ?_
          refine a_get X ff_Ws_78 d_Ws_showOf_76 hq_4 rfl ?_
          refine a_iload_n X 2 d_Ws_showOf_79 rfl rfl ?_
          refine a_aald X d_Ws_showOf_80 hq_5 rfl rfl (ab_ix_nI (by omega) (by decide)) (hg_wt (by omega)) ?_
          refine a_iconst X (v := nI 5) d_Ws_showOf_81 (by decide) ?_
          refine a_iload X d_Ws_showOf_82 rfl ?_
          refine a_iadd X d_Ws_showOf_84 ?_
          refine ab_topi (nI_add _ _) ?_
          refine a_iald X d_Ws_showOf_85 (hr_wt (by omega)) rfl (ab_ix_nI (by omega) (by decide)) ?_
          refine a_iadd X d_Ws_showOf_86 ?_
          refine ab_topi (nI_add _ _) ?_
          refine ab_topi (congrArg nI (show _ = sumR (fun y => s.1 st (5 + y)) 0 (i + 1) from by show _ = sumR _ 0 i + s.1 st (5 + (0 + i)); rw [Nat.zero_add])) ?_
          refine a_istore X d_Ws_showOf_87 (by decide) ?_
          refine a_incN X d_Ws_showOf_89 rfl (by decide) ?_
          refine a_goto X 64 d_Ws_showOf_92 (by decide) ?_
          refine ab_sub [(0, .ref 54), (1, .int (nI p)), (2, .int (nI st)), (5, .int (nI (sumR (fun y => s.1 st (5 + y)) 0 (i + 1)))), (6, .int (nI (i + 1)))] rfl ?_
          exact ih (i + 1) (by omega) (by omega)
    ·
      obtain ⟨z, hz, hsg⟩ : ∃ z, z < 4 ∧ r.1 p = nI z := (hs p hp).resolve_left c36
      refine a_aload_n X 0 d_Ws_showOf_39 rfl rfl ?_
      refine a_aload_n X 0 d_Ws_showOf_40 rfl rfl ?_
      refine a_get X ff_Ws_36 d_Ws_showOf_41 hq_53 rfl ?_
      refine a_get X ff_Ws_78 d_Ws_showOf_44 hq_4 rfl ?_
      refine a_iload_n X 2 d_Ws_showOf_47 rfl rfl ?_
      refine a_aald X d_Ws_showOf_48 hq_5 rfl rfl (ab_ix_nI (by omega) (by decide)) (hg_wt (by omega)) ?_
      refine a_iconst X (v := nI 5) d_Ws_showOf_49 (by decide) ?_
      refine a_iload X d_Ws_showOf_50 rfl ?_
      refine a_iadd X d_Ws_showOf_52 ?_
      rw [hsg]
      refine ab_topi (nI_add _ _) ?_
      refine a_iald X d_Ws_showOf_53 (hr_wt (by omega)) rfl (ab_ix_nI (by omega) (by decide)) ?_
      refine a_callV X (a := 53) (As := [.int (nI _)]) hq_53 rfl fb_Ws_cut lk_Ws_71 im_Ws_cut se_Ws_cut (c_cut_c (by have := hw st (5 + z); omega)) rfl rfl (Nat.le_of_ble_eq_true rfl) (by decide) (by decide) (Nat.le_refl _) (Nat.le_refl _) d_Ws_showOf_54 (fun v h1 hp => ?_)
      obtain ⟨rfl, rfl⟩ := hp
      exact a_lret X d_Ws_showOf_57 (Nat.le_refl _) (Nat.le_refl _) ⟨by unfold shoR; rw [if_neg hno, if_neg c36, hsg, nI_clamp (by omega)], rfl⟩
  ·
    refine a_iload_n X 3 d_Ws_showOf_15 rfl rfl ?_
    refine a_iload_n X 2 d_Ws_showOf_16 rfl rfl ?_
    refine a_icmp_eq X 22 d_Ws_showOf_17 (by decide) (fun c17 => ?_) (fun c17 => ?_)
    ·
      have hno : ¬ (r.2.1 p ≠ -1 ∧ r.2.1 p ≠ nI st) := fun q => q.2 c17
      refine a_aload_n X 0 d_Ws_showOf_22 rfl rfl ?_
      refine a_get X ff_Ws_32 d_Ws_showOf_23 hq_53 rfl ?_
      refine a_get X ff_Ws_98 d_Ws_showOf_26 hq_1 rfl ?_
      refine a_iload_n X 1 d_Ws_showOf_29 rfl rfl ?_
      refine a_iald X d_Ws_showOf_30 hq_2 rfl (ab_ix_nI (by omega) (by decide)) ?_
      refine a_istore X d_Ws_showOf_31 (by decide) ?_
      refine a_iload X d_Ws_showOf_33 rfl ?_
      refine a_iconst X (v := -1) d_Ws_showOf_35 (by decide) ?_
      refine a_icmp_eq X 58 d_Ws_showOf_36 (by decide) (fun c36 => ?_) (fun c36 => ?_)
      ·
        refine a_iconst X (v := nI 0) d_Ws_showOf_58 (by decide) ?_
        refine a_istore X d_Ws_showOf_59 (by decide) ?_
        refine a_iconst X (v := nI 0) d_Ws_showOf_61 (by decide) ?_
        refine a_istore X d_Ws_showOf_62 (by decide) ?_
        refine ab_sub [(0, .ref 54), (1, .int (nI p)), (2, .int (nI st)), (5, .int (nI (sumR (fun y => s.1 st (5 + y)) 0 0))), (6, .int (nI 0))] rfl ?_
        suffices LP : ∀ (mm i : Nat), i ≤ 4 → 4 - i < mm → ab_R E G m 7 0 0 64 [(0, .ref 54), (1, .int (nI p)), (2, .int (nI st)), (5, .int (nI (sumR (fun y => s.1 st (5 + y)) 0 i))), (6, .int (nI i))] [] (hc r s w c b d k t ++ Z) from LP 5 0 (by omega) (by omega)
        intro mm
        induction mm with
        | zero => intro i h1 h2; exfalso; omega
        | succ mm ih =>
          intro i h1 h2
          refine a_iload X d_Ws_showOf_64 rfl ?_
          refine a_iconst X (v := nI 4) d_Ws_showOf_66 (by decide) ?_
          refine a_icmp_geN X 95 (by omega) (by omega) d_Ws_showOf_67 (by decide) (fun c67 => ?_) (fun c67 => ?_)
          ·
            refine a_aload_n X 0 d_Ws_showOf_95 rfl rfl ?_
            refine a_iload X d_Ws_showOf_96 rfl ?_
            refine a_callV X (a := 53) (As := [.int (nI _)]) hq_53 rfl fb_Ws_cut lk_Ws_71 im_Ws_cut se_Ws_cut (c_cut_c (by have := sumR_le (g := (fun y => s.1 st (5 + y))) (a := 0) (fun y => hw st (5 + y)) i; omega)) rfl rfl (Nat.le_of_ble_eq_true rfl) (by decide) (by decide) (Nat.le_refl _) (Nat.le_refl _) d_Ws_showOf_98 (fun v h1 hp => ?_)
            obtain ⟨rfl, rfl⟩ := hp
            exact a_lret X d_Ws_showOf_101 (Nat.le_refl _) (Nat.le_refl _) ⟨by unfold shoR; rw [if_neg hno, if_pos c36, show i = 4 by omega], rfl⟩
          ·
            refine a_iload X d_Ws_showOf_70 rfl ?_
            refine a_aload_n X 0 d_Ws_showOf_72 rfl rfl ?_
            refine a_get X ff_Ws_36 d_Ws_showOf_73 hq_53 rfl ?_
            refine a_get X ff_Ws_78 d_Ws_showOf_76 hq_4 rfl ?_
            refine a_iload_n X 2 d_Ws_showOf_79 rfl rfl ?_
            refine a_aald X d_Ws_showOf_80 hq_5 rfl rfl (ab_ix_nI (by omega) (by decide)) (hg_wt (by omega)) ?_
            refine a_iconst X (v := nI 5) d_Ws_showOf_81 (by decide) ?_
            refine a_iload X d_Ws_showOf_82 rfl ?_
            refine a_iadd X d_Ws_showOf_84 ?_
            refine ab_topi (nI_add _ _) ?_
            refine a_iald X d_Ws_showOf_85 (hr_wt (by omega)) rfl (ab_ix_nI (by omega) (by decide)) ?_
            refine a_iadd X d_Ws_showOf_86 ?_
            refine ab_topi (nI_add _ _) ?_
            refine ab_topi (congrArg nI (show _ = sumR (fun y => s.1 st (5 + y)) 0 (i + 1) from by show _ = sumR _ 0 i + s.1 st (5 + (0 + i)); rw [Nat.zero_add])) ?_
            refine a_istore X d_Ws_showOf_87 (by decide) ?_
            refine a_incN X d_Ws_showOf_89 rfl (by decide) ?_
            refine a_goto X 64 d_Ws_showOf_92 (by decide) ?_
            refine ab_sub [(0, .ref 54), (1, .int (nI p)), (2, .int (nI st)), (5, .int (nI (sumR (fun y => s.1 st (5 + y)) 0 (i + 1)))), (6, .int (nI (i + 1)))] rfl ?_
            exact ih (i + 1) (by omega) (by omega)
      ·
        obtain ⟨z, hz, hsg⟩ : ∃ z, z < 4 ∧ r.1 p = nI z := (hs p hp).resolve_left c36
        refine a_aload_n X 0 d_Ws_showOf_39 rfl rfl ?_
        refine a_aload_n X 0 d_Ws_showOf_40 rfl rfl ?_
        refine a_get X ff_Ws_36 d_Ws_showOf_41 hq_53 rfl ?_
        refine a_get X ff_Ws_78 d_Ws_showOf_44 hq_4 rfl ?_
        refine a_iload_n X 2 d_Ws_showOf_47 rfl rfl ?_
        refine a_aald X d_Ws_showOf_48 hq_5 rfl rfl (ab_ix_nI (by omega) (by decide)) (hg_wt (by omega)) ?_
        refine a_iconst X (v := nI 5) d_Ws_showOf_49 (by decide) ?_
        refine a_iload X d_Ws_showOf_50 rfl ?_
        refine a_iadd X d_Ws_showOf_52 ?_
        rw [hsg]
        refine ab_topi (nI_add _ _) ?_
        refine a_iald X d_Ws_showOf_53 (hr_wt (by omega)) rfl (ab_ix_nI (by omega) (by decide)) ?_
        refine a_callV X (a := 53) (As := [.int (nI _)]) hq_53 rfl fb_Ws_cut lk_Ws_71 im_Ws_cut se_Ws_cut (c_cut_c (by have := hw st (5 + z); omega)) rfl rfl (Nat.le_of_ble_eq_true rfl) (by decide) (by decide) (Nat.le_refl _) (Nat.le_refl _) d_Ws_showOf_54 (fun v h1 hp => ?_)
        obtain ⟨rfl, rfl⟩ := hp
        exact a_lret X d_Ws_showOf_57 (Nat.le_refl _) (Nat.le_refl _) ⟨by unfold shoR; rw [if_neg hno, if_neg c36, hsg, nI_clamp (by omega)], rfl⟩
    ·
      refine a_lconst X (v := lN 0) d_Ws_showOf_20 (by decide) ?_
      exact a_lret X d_Ws_showOf_21 (Nat.le_refl _) (Nat.le_refl _) ⟨by unfold shoR; rw [if_pos ⟨c12, c17⟩], rfl⟩
end
section
theorem up2_at (f : hG) (i j x a b : Nat) : up2 f i j x a b = if a = i ∧ b = j then x else f a b := by
  unfold up2 va_up
  by_cases h : a = i
  · subst h
    by_cases h2 : b = j
    · subst h2
      simp
    · simp [h2]
  · simp [h]
theorem up2_self (f : hG) (i j x : Nat) : up2 f i j x i j = x := by rw [up2_at, if_pos ⟨rfl, rfl⟩]
theorem up2_ne {f : hG} {i j x a b : Nat} (h : ¬ (a = i ∧ b = j)) : up2 f i j x a b = f a b := by rw [up2_at, if_neg h]
theorem up2_row {f : hG} {i j x a : Nat} (h : a ≠ i) : up2 f i j x a = f a := by
  unfold up2
  exact va_up_ne _ _ h
theorem sumR_congr {g g' : Nat → Nat} {a : Nat} : ∀ {m : Nat}, (∀ i, i < m → g (a + i) = g' (a + i)) → sumR g a m = sumR g' a m
  | 0, _ => rfl
  | m + 1, h => by
    show sumR g a m + g (a + m) = sumR g' a m + g' (a + m)
    rw [sumR_congr (fun i hi => h i (by omega)), h m (by omega)]
theorem lonR_congr {cu : Nat → Nat} {s : hS} {n x bg st : Nat} {f g g' : hG} (h : ∀ y, bg < y → y ≤ n → g y st = g' y st) : lonR cu s n f g x bg st = lonR cu s n f g' x bg st := by
  unfold lonR
  refine sumR_congr (fun i hi => ?_)
  show _ * _ = _ * _
  rw [h (bg + (x + 1 + i)) (by omega) (by omega)]
theorem outR_congr {cu : Nat → Nat} {s : hS} {p st : Nat} {f f' : hG} (h : f p = f' p) : outR cu s f p st = outR cu s f' p st := by
  unfold outR
  rw [h]
theorem intR_congr {cu : Nat → Nat} {s : hS} {p st : Nat} {f f' : hG} (h : f p = f' p) : intR cu s f p st = intR cu s f' p st := by
  unfold intR
  rw [h]
theorem endR_congr {cu : Nat → Nat} {s : hS} {e st : Nat} {f g g' : hG} (h : ∀ y, y < e → g y st = g' y st) : endR cu s f g e st = endR cu s f g' e st := by
  unfold endR
  refine sumR_congr (fun i hi => ?_)
  show _ * _ = _ * _
  rw [h (e - (1 + i)) (by omega)]
theorem pm_sub (m : Nat) : nI m - nI 1 = nI m + (-1) := by
  rw [Int32.sub_eq_add_neg]
  rfl
/-- what the tables hold when they are known -/
def okW (cu : Nat → Nat) (r : hR) (s : hS) (w : hW) : Prop :=
  (∀ a b, a < r.2.2 → b < s.2.2 → w.1 a b = shoR cu s r a b) ∧
  (∀ b, b < s.2.2 → w.2.2.1 r.2.2 b = cu (s.1 b 1)) ∧
  (∀ a b, a < r.2.2 → b < s.2.2 → w.2.1 a b = lonR cu s r.2.2 w.1 w.2.2.1 0 a b) ∧
  (∀ a b, a < r.2.2 → b < s.2.2 → w.2.2.1 a b = outR cu s w.2.1 a b) ∧
  (∀ a b, a < r.2.2 → b < s.2.2 → w.2.2.2.2.1 a b = if a = 0 then cu (s.1 b 0) else intR cu s w.2.2.2.1 a b) ∧
  (∀ a b, a < r.2.2 → b < s.2.2 → w.2.2.2.1 (a + 1) b = endR cu s w.1 w.2.2.2.2.1 (a + 1) b)
/-- the class' own bounds: places, states, weights, signs -/
def okR (r : hR) : Prop := r.2.2 ≤ 6 ∧ ∀ i, i < 6 → r.1 i = -1 ∨ ∃ z, z < 4 ∧ r.1 i = nI z
def okS (s : hS) : Prop := s.2.2 ≤ 4 ∧ (∀ i j, s.1 i j ≤ 4) ∧ ∀ i j, s.2.1 i j ≤ 4
end
section
set_option maxHeartbeats 4000000 in
set_option maxRecDepth 20000 in
theorem c_shp_w {E : ab_E} {l : Launch} {r : hR} {s : hS} {w c : hW} {b : hB} {d : hD} {k : hK} {t : hT} {Z : List ab_C} (hr : okR r) (hs : okS s) : ab_Con E l y_Ws_showPlaces b_Ws_showPlaces 3 none 2 47 [.ref 16] (hc r s w c b d k t ++ Z) 0 0 (fun v h1 => v = none ∧ ∃ f : hG, (∀ a b, a < r.2.2 → b < s.2.2 → f a b = shoR id s r a b) ∧ h1 = hc r s (f, w.2) c b d k t ++ Z) := by
  obtain ⟨hn, hsg⟩ := hr
  obtain ⟨hq, hw, hm⟩ := hs
  refine ab_con (own := "HiddenRows$WaySums") (ini := false) (by decide) (fun h => by cases h) rfl (Nat.le_of_ble_eq_true rfl) ?_
  intro G m X
  show ab_R E G m 3 0 0 0 [(0, .ref 16)] [] (hc r s w c b d k t ++ Z)
  refine a_iconst X (v := nI 0) d_Ws_showPlaces_0 (by decide) ?_
  refine a_istore_n X 1 d_Ws_showPlaces_1 rfl (by decide) ?_
  refine ab_sub [(0, .ref 16), (1, .int (nI 0))] rfl ?_
  suffices LP : ∀ (mm p : Nat) (f : hG), (∀ a b, a < p → b < s.2.2 → f a b = shoR id s r a b) → p ≤ r.2.2 → r.2.2 - p < mm → ab_R E G m 3 0 0 2 [(0, .ref 16), (1, .int (nI p))] [] (hc r s (f, w.2) c b d k t ++ Z) from LP (r.2.2 + 1) 0 w.1 (fun a b h => by omega) (by omega) (by omega)
  intro mm
  induction mm with
  | zero => intro p f hf h1 h2; exfalso; omega
  | succ mm ih =>
    intro p f hf h1 h2
    refine a_iload_n X 1 d_Ws_showPlaces_2 rfl rfl ?_
    refine a_aload_n X 0 d_Ws_showPlaces_3 rfl rfl ?_
    refine a_get X ff_Ws_32 d_Ws_showPlaces_4 hq_15 rfl ?_
    refine a_get X ff_Ws_47 d_Ws_showPlaces_7 hq_1 rfl ?_
    refine a_icmp_geN X 52 (by omega) (by omega) d_Ws_showPlaces_10 (by decide) (fun c10 => ?_) (fun c10 => ?_)
    ·
      exact a_vret X d_Ws_showPlaces_52 (Nat.le_refl _) (Nat.le_refl _) ⟨rfl, f, fun a b h hb => hf a b (by omega) hb, rfl⟩
    ·
      refine a_iconst X (v := nI 0) d_Ws_showPlaces_13 (by decide) ?_
      refine a_istore_n X 2 d_Ws_showPlaces_14 rfl (by decide) ?_
      refine ab_sub [(0, .ref 16), (1, .int (nI p)), (2, .int (nI 0))] rfl ?_
      suffices LP2 : ∀ (mm2 y : Nat) (g : hG), (∀ a b, a < p ∨ (a = p ∧ b < y) → b < s.2.2 → g a b = shoR id s r a b) → y ≤ s.2.2 → s.2.2 - y < mm2 → ab_R E G m 3 0 0 15 [(0, .ref 16), (1, .int (nI p)), (2, .int (nI y))] [] (hc r s (g, w.2) c b d k t ++ Z) from LP2 (s.2.2 + 1) 0 f (fun a b h hb => hf a b (by omega) hb) (by omega) (by omega)
      intro mm2
      induction mm2 with
      | zero => intro y g hg h3 h4; exfalso; omega
      | succ mm2 ih2 =>
        intro y g hg h3 h4
        refine a_iload_n X 2 d_Ws_showPlaces_15 rfl rfl ?_
        refine a_aload_n X 0 d_Ws_showPlaces_16 rfl rfl ?_
        refine a_get X ff_Ws_36 d_Ws_showPlaces_17 hq_15 rfl ?_
        refine a_get X ff_Ws_52 d_Ws_showPlaces_20 hq_4 rfl ?_
        refine a_icmp_geN X 46 (by omega) (by omega) d_Ws_showPlaces_23 (by decide) (fun c23 => ?_) (fun c23 => ?_)
        ·
          refine a_incN X d_Ws_showPlaces_46 rfl (by decide) ?_
          refine a_goto X 2 d_Ws_showPlaces_49 (by decide) ?_
          refine ab_sub [(0, .ref 16), (1, .int (nI (p + 1)))] rfl ?_
          exact ih (p + 1) g (fun a b h hb => hg a b (by omega) hb) (by omega) (by omega)
        ·
          refine a_aload_n X 0 d_Ws_showPlaces_26 rfl rfl ?_
          refine a_get X ff_Ws_11 d_Ws_showPlaces_27 hq_15 rfl ?_
          refine a_iload_n X 1 d_Ws_showPlaces_30 rfl rfl ?_
          refine a_aald X d_Ws_showPlaces_31 hq_16 rfl rfl (ab_ix_nI (by omega) (by decide)) (hg_sh (by omega)) ?_
          refine a_iload_n X 2 d_Ws_showPlaces_32 rfl rfl ?_
          refine a_aload_n X 0 d_Ws_showPlaces_33 rfl rfl ?_
          refine a_iload_n X 1 d_Ws_showPlaces_34 rfl rfl ?_
          refine a_iload_n X 2 d_Ws_showPlaces_35 rfl rfl ?_
          refine a_callV X (a := 15) (As := [.int (nI _), .int (nI _)]) hq_15 rfl fb_Ws_showOf lk_Ws_90 im_Ws_showOf se_Ws_showOf (c_sho_w hw (by omega) (by omega) hsg) rfl rfl (Nat.le_of_ble_eq_true rfl) (by decide) (by decide) (Nat.le_refl _) (Nat.le_refl _) d_Ws_showPlaces_36 (fun v h1 hp => ?_)
          obtain ⟨rfl, rfl⟩ := hp
          refine a_last X d_Ws_showPlaces_39 (hr_sh (by omega)) rfl (ab_ix_nI (by omega) (by decide)) ?_
          refine ab_hp (hw_sh (by omega)) ?_
          refine a_incN X d_Ws_showPlaces_40 rfl (by decide) ?_
          refine a_goto X 15 d_Ws_showPlaces_43 (by decide) ?_
          refine ab_sub [(0, .ref 16), (1, .int (nI p)), (2, .int (nI (y + 1)))] rfl ?_
          exact ih2 (y + 1) (up2 g p y (shoR id s r p y)) (fun a b h hb => by
            rw [up2_at]
            split
            · next e => rw [e.1, e.2]
            · exact hg a b (by omega) hb) (by omega) (by omega)
set_option maxHeartbeats 4000000 in
set_option maxRecDepth 20000 in
theorem c_sfb_w {E : ab_E} {l : Launch} {r : hR} {s : hS} {w c : hW} {b : hB} {d : hD} {k : hK} {t : hT} {Z : List ab_C} (hr : okR r) (hs : okS s) : ab_Con E l y_Ws_sumFromBehind b_Ws_sumFromBehind 3 none 3 73 [.ref 16] (hc r s w c b d k t ++ Z) 0 0 (fun v h1 => v = none ∧ ∃ fr le : hG, (∀ b, b < s.2.2 → le r.2.2 b = id (s.1 b 1)) ∧ (∀ a b, a < r.2.2 → b < s.2.2 → fr a b = lonR id s r.2.2 w.1 le 0 a b) ∧ (∀ a b, a < r.2.2 → b < s.2.2 → le a b = outR id s fr a b) ∧ h1 = hc r s (w.1, fr, le, w.2.2.2) c b d k t ++ Z) := by
  obtain ⟨hn, hsg⟩ := hr
  obtain ⟨hq, hw, hm⟩ := hs
  refine ab_con (own := "HiddenRows$WaySums") (ini := false) (by decide) (fun h => by cases h) rfl (Nat.le_of_ble_eq_true rfl) ?_
  intro G m X
  show ab_R E G m 3 0 0 0 [(0, .ref 16)] [] (hc r s w c b d k t ++ Z)
  refine a_iconst X (v := nI 0) d_Ws_sumFromBehind_0 (by decide) ?_
  refine a_istore_n X 1 d_Ws_sumFromBehind_1 rfl (by decide) ?_
  refine ab_sub [(0, .ref 16), (1, .int (nI 0))] rfl ?_
  suffices LP : ∀ (mm y : Nat) (le : hG), (∀ b, b < y → le r.2.2 b = id (s.1 b 1)) → y ≤ s.2.2 → s.2.2 - y < mm → ab_R E G m 3 0 0 2 [(0, .ref 16), (1, .int (nI y))] [] (hc r s (w.1, w.2.1, le, w.2.2.2) c b d k t ++ Z) from LP (s.2.2 + 1) 0 w.2.2.1 (fun b h => by omega) (by omega) (by omega)
  intro mm
  induction mm with
  | zero => intro y le hA h1 h2; exfalso; omega
  | succ mm ih =>
    intro y le hA h1 h2
    refine a_iload_n X 1 d_Ws_sumFromBehind_2 rfl rfl ?_
    refine a_aload_n X 0 d_Ws_sumFromBehind_3 rfl rfl ?_
    refine a_get X ff_Ws_36 d_Ws_sumFromBehind_4 hq_15 rfl ?_
    refine a_get X ff_Ws_52 d_Ws_sumFromBehind_7 hq_4 rfl ?_
    refine a_icmp_geN X 48 (by omega) (by omega) d_Ws_sumFromBehind_10 (by decide) (fun c10 => ?_) (fun c10 => ?_)
    ·
      refine a_aload_n X 0 d_Ws_sumFromBehind_48 rfl rfl ?_
      refine a_get X ff_Ws_32 d_Ws_sumFromBehind_49 hq_15 rfl ?_
      refine a_get X ff_Ws_47 d_Ws_sumFromBehind_52 hq_1 rfl ?_
      refine a_iconst X (v := nI 1) d_Ws_sumFromBehind_55 (by decide) ?_
      refine a_isub X d_Ws_sumFromBehind_56 ?_
      refine ab_topi (pm_sub _) ?_
      refine a_istore_n X 1 d_Ws_sumFromBehind_57 rfl (by decide) ?_
      refine ab_sub [(0, .ref 16), (1, .int (nI r.2.2 + (-1)))] rfl ?_
      suffices LP3 : ∀ (m3 : Nat) (fr le : hG), m3 ≤ r.2.2 → (∀ b, b < s.2.2 → le r.2.2 b = id (s.1 b 1)) → (∀ a b, m3 ≤ a → a < r.2.2 → b < s.2.2 → fr a b = lonR id s r.2.2 w.1 le 0 a b) → (∀ a b, m3 ≤ a → a < r.2.2 → b < s.2.2 → le a b = outR id s fr a b) → ab_R E G m 3 0 0 58 [(0, .ref 16), (1, .int (nI m3 + (-1)))] [] (hc r s (w.1, fr, le, w.2.2.2) c b d k t ++ Z) from LP3 r.2.2 w.2.1 le (by omega) (fun b hb => hA b (by omega)) (fun a b h1 h2 => by omega) (fun a b h1 h2 => by omega)
      clear ih
      intro m3
      induction m3 with
      | zero =>
        intro fr le h3 hA hF hL
        refine a_iload_n X 1 d_Ws_sumFromBehind_58 rfl rfl ?_
        refine a_if_lt X 135 d_Ws_sumFromBehind_59 (by decide) (fun c59 => ?_) (fun c59 => ?_)
        ·
          exact a_vret X d_Ws_sumFromBehind_135 (Nat.le_refl _) (Nat.le_refl _) ⟨rfl, fr, le, hA, fun a b h hb => hF a b (by omega) h hb, fun a b h hb => hL a b (by omega) h hb, rfl⟩
        ·
          exact absurd (by decide) c59
      | succ p ih3 =>
        intro fr le h3 hA hF hL
        rw [pk_m1 p]
        refine a_iload_n X 1 d_Ws_sumFromBehind_58 rfl rfl ?_
        refine a_if_ltN X 135 (by omega) d_Ws_sumFromBehind_59 (by decide) ?_
        refine a_iconst X (v := nI 0) d_Ws_sumFromBehind_62 (by decide) ?_
        refine a_istore_n X 2 d_Ws_sumFromBehind_63 rfl (by decide) ?_
        refine ab_sub [(0, .ref 16), (1, .int (nI p)), (2, .int (nI 0))] rfl ?_
        suffices LP4 : ∀ (m4 y : Nat) (fr : hG), (∀ a b, p + 1 ≤ a → a < r.2.2 → b < s.2.2 → fr a b = lonR id s r.2.2 w.1 le 0 a b) → (∀ a b, p + 1 ≤ a → a < r.2.2 → b < s.2.2 → le a b = outR id s fr a b) → (∀ b, b < y → fr p b = lonR id s r.2.2 w.1 le 0 p b) → y ≤ s.2.2 → s.2.2 - y < m4 → ab_R E G m 3 0 0 64 [(0, .ref 16), (1, .int (nI p)), (2, .int (nI y))] [] (hc r s (w.1, fr, le, w.2.2.2) c b d k t ++ Z) from LP4 (s.2.2 + 1) 0 fr hF hL (fun b h => by omega) (by omega) (by omega)
        clear hF hL fr
        intro m4
        induction m4 with
        | zero => intro y fr hF hL hP h4 h5; exfalso; omega
        | succ m4 ih4 =>
          intro y fr hF hL hP h4 h5
          refine a_iload_n X 2 d_Ws_sumFromBehind_64 rfl rfl ?_
          refine a_aload_n X 0 d_Ws_sumFromBehind_65 rfl rfl ?_
          refine a_get X ff_Ws_36 d_Ws_sumFromBehind_66 hq_15 rfl ?_
          refine a_get X ff_Ws_52 d_Ws_sumFromBehind_69 hq_4 rfl ?_
          refine a_icmp_geN X 96 (by omega) (by omega) d_Ws_sumFromBehind_72 (by decide) (fun c72 => ?_) (fun c72 => ?_)
          ·
            refine a_iconst X (v := nI 0) d_Ws_sumFromBehind_96 (by decide) ?_
            refine a_istore_n X 2 d_Ws_sumFromBehind_97 rfl (by decide) ?_
            refine ab_sub [(0, .ref 16), (1, .int (nI p)), (2, .int (nI 0))] rfl ?_
            suffices LP5 : ∀ (m5 y : Nat) (le : hG), (∀ b, b < s.2.2 → le r.2.2 b = id (s.1 b 1)) → (∀ a b, p ≤ a → a < r.2.2 → b < s.2.2 → fr a b = lonR id s r.2.2 w.1 le 0 a b) → (∀ a b, p + 1 ≤ a → a < r.2.2 → b < s.2.2 → le a b = outR id s fr a b) → (∀ b, b < y → le p b = outR id s fr p b) → y ≤ s.2.2 → s.2.2 - y < m5 → ab_R E G m 3 0 0 98 [(0, .ref 16), (1, .int (nI p)), (2, .int (nI y))] [] (hc r s (w.1, fr, le, w.2.2.2) c b d k t ++ Z) from LP5 (s.2.2 + 1) 0 le hA (fun a b h1 h2 h3 => by
              by_cases e : a = p
              · subst e
                exact hP b (by omega)
              · exact hF a b (by omega) h2 h3) hL (fun b h => by omega) (by omega) (by omega)
            clear hA hF hL hP ih4 le
            intro m5
            induction m5 with
            | zero => intro y le hA hF hL hP h4 h5; exfalso; omega
            | succ m5 ih5 =>
              intro y le hA hF hL hP h4 h5
              refine a_iload_n X 2 d_Ws_sumFromBehind_98 rfl rfl ?_
              refine a_aload_n X 0 d_Ws_sumFromBehind_99 rfl rfl ?_
              refine a_get X ff_Ws_36 d_Ws_sumFromBehind_100 hq_15 rfl ?_
              refine a_get X ff_Ws_52 d_Ws_sumFromBehind_103 hq_4 rfl ?_
              refine a_icmp_geN X 129 (by omega) (by omega) d_Ws_sumFromBehind_106 (by decide) (fun c106 => ?_) (fun c106 => ?_)
              ·
                refine a_iinc X d_Ws_sumFromBehind_129 rfl (v := nI p + (-1)) rfl (by decide) ?_
                refine a_goto X 58 d_Ws_sumFromBehind_132 (by decide) ?_
                refine ab_sub [(0, .ref 16), (1, .int (nI p + (-1)))] rfl ?_
                exact ih3 fr le (by omega) hA hF (fun a b h1 h2 h3 => by
                  by_cases e : a = p
                  · subst e
                    exact hP b (by omega)
                  · exact hL a b (by omega) h2 h3)
              ·
                refine a_aload_n X 0 d_Ws_sumFromBehind_109 rfl rfl ?_
                refine a_get X ff_Ws_19 d_Ws_sumFromBehind_110 hq_15 rfl ?_
                refine a_iload_n X 1 d_Ws_sumFromBehind_113 rfl rfl ?_
                refine a_aald X d_Ws_sumFromBehind_114 hq_30 rfl rfl (ab_ix_nI (by omega) (by decide)) (hg_le (by omega)) ?_
                refine a_iload_n X 2 d_Ws_sumFromBehind_115 rfl rfl ?_
                refine a_aload_n X 0 d_Ws_sumFromBehind_116 rfl rfl ?_
                refine a_iload_n X 1 d_Ws_sumFromBehind_117 rfl rfl ?_
                refine a_iload_n X 2 d_Ws_sumFromBehind_118 rfl rfl ?_
                refine a_callV X (a := 15) (As := [.int (nI _), .int (nI _)]) hq_15 rfl fb_Ws_movedOutOf lk_Ws_101 im_Ws_movedOutOf se_Ws_movedOutOf (c_out_w hm hq (by omega) (by omega)) rfl rfl (Nat.le_of_ble_eq_true rfl) (by decide) (by decide) (Nat.le_refl _) (Nat.le_refl _) d_Ws_sumFromBehind_119 (fun v h1 hp => ?_)
                obtain ⟨rfl, rfl⟩ := hp
                refine a_last X d_Ws_sumFromBehind_122 (hr_le (by omega)) rfl (ab_ix_nI (by omega) (by decide)) ?_
                refine ab_hp (hw_le (by omega)) ?_
                refine a_incN X d_Ws_sumFromBehind_123 rfl (by decide) ?_
                refine a_goto X 98 d_Ws_sumFromBehind_126 (by decide) ?_
                refine ab_sub [(0, .ref 16), (1, .int (nI p)), (2, .int (nI (y + 1)))] rfl ?_
                exact ih5 (y + 1) (up2 le p y (outR id s fr p y)) (fun b hb => by rw [up2_row (by omega)]; exact hA b hb) (fun a b h1 h2 h3 => by rw [lonR_congr (g' := le) (fun z hz _ => by rw [up2_row (by omega)])]; exact hF a b h1 h2 h3) (fun a b h1 h2 h3 => by rw [up2_row (by omega)]; exact hL a b h1 h2 h3) (fun b h => by
                  rw [up2_at]
                  split
                  · next e => rw [e.2]
                  · exact hP b (by omega)) (by omega) (by omega)
          ·
            refine a_aload_n X 0 d_Ws_sumFromBehind_75 rfl rfl ?_
            refine a_get X ff_Ws_16 d_Ws_sumFromBehind_76 hq_15 rfl ?_
            refine a_iload_n X 1 d_Ws_sumFromBehind_79 rfl rfl ?_
            refine a_aald X d_Ws_sumFromBehind_80 hq_23 rfl rfl (ab_ix_nI (by omega) (by decide)) (hg_fr (by omega)) ?_
            refine a_iload_n X 2 d_Ws_sumFromBehind_81 rfl rfl ?_
            refine a_aload_n X 0 d_Ws_sumFromBehind_82 rfl rfl ?_
            refine a_iconst X (v := nI 0) d_Ws_sumFromBehind_83 (by decide) ?_
            refine a_iload_n X 1 d_Ws_sumFromBehind_84 rfl rfl ?_
            refine a_iload_n X 2 d_Ws_sumFromBehind_85 rfl rfl ?_
            refine a_callV X (a := 15) (As := [.int (nI _), .int (nI _), .int (nI _)]) hq_15 rfl fb_Ws_longerThan lk_Ws_63 im_Ws_longerThan se_Ws_longerThan (c_lon_w hw hn (by omega) (by omega) (by omega)) rfl rfl (Nat.le_of_ble_eq_true rfl) (by decide) (by decide) (Nat.le_refl _) (Nat.le_refl _) d_Ws_sumFromBehind_86 (fun v h1 hp => ?_)
            obtain ⟨rfl, rfl⟩ := hp
            refine a_last X d_Ws_sumFromBehind_89 (hr_fr (by omega)) rfl (ab_ix_nI (by omega) (by decide)) ?_
            refine ab_hp (hw_fr (by omega)) ?_
            refine a_incN X d_Ws_sumFromBehind_90 rfl (by decide) ?_
            refine a_goto X 64 d_Ws_sumFromBehind_93 (by decide) ?_
            refine ab_sub [(0, .ref 16), (1, .int (nI p)), (2, .int (nI (y + 1)))] rfl ?_
            exact ih4 (y + 1) (up2 fr p y (lonR id s r.2.2 w.1 le 0 p y)) (fun a b h1 h2 h3 => by rw [up2_row (by omega)]; exact hF a b h1 h2 h3) (fun a b h1 h2 h3 => by rw [outR_congr (up2_row (by omega))]; exact hL a b h1 h2 h3) (fun b h => by
              rw [up2_at]
              split
              · next e => rw [e.2]
              · exact hP b (by omega)) (by omega) (by omega)
    ·
      refine a_aload_n X 0 d_Ws_sumFromBehind_13 rfl rfl ?_
      refine a_get X ff_Ws_19 d_Ws_sumFromBehind_14 hq_15 rfl ?_
      refine a_aload_n X 0 d_Ws_sumFromBehind_17 rfl rfl ?_
      refine a_get X ff_Ws_32 d_Ws_sumFromBehind_18 hq_15 rfl ?_
      refine a_get X ff_Ws_47 d_Ws_sumFromBehind_21 hq_1 rfl ?_
      refine a_aald X d_Ws_sumFromBehind_24 hq_30 rfl rfl (ab_ix_nI (by omega) (by decide)) (hg_le (by omega)) ?_
      refine a_iload_n X 1 d_Ws_sumFromBehind_25 rfl rfl ?_
      refine a_aload_n X 0 d_Ws_sumFromBehind_26 rfl rfl ?_
      refine a_aload_n X 0 d_Ws_sumFromBehind_27 rfl rfl ?_
      refine a_get X ff_Ws_36 d_Ws_sumFromBehind_28 hq_15 rfl ?_
      refine a_get X ff_Ws_78 d_Ws_sumFromBehind_31 hq_4 rfl ?_
      refine a_iload_n X 1 d_Ws_sumFromBehind_34 rfl rfl ?_
      refine a_aald X d_Ws_sumFromBehind_35 hq_5 rfl rfl (ab_ix_nI (by omega) (by decide)) (hg_wt (by omega)) ?_
      refine a_iconst X (v := nI 1) d_Ws_sumFromBehind_36 (by decide) ?_
      refine a_iald X d_Ws_sumFromBehind_37 (hr_wt (by omega)) rfl (ab_ix_nI (by omega) (by decide)) ?_
      refine a_callV X (a := 15) (As := [.int (nI _)]) hq_15 rfl fb_Ws_cut lk_Ws_71 im_Ws_cut se_Ws_cut (c_cut_w (by have := hw y 1; omega)) rfl rfl (Nat.le_of_ble_eq_true rfl) (by decide) (by decide) (Nat.le_refl _) (Nat.le_refl _) d_Ws_sumFromBehind_38 (fun v h1 hp => ?_)
      obtain ⟨rfl, rfl⟩ := hp
      refine a_last X d_Ws_sumFromBehind_41 (hr_le (by omega)) rfl (ab_ix_nI (by omega) (by decide)) ?_
      refine ab_hp (hw_le (by omega)) ?_
      refine a_incN X d_Ws_sumFromBehind_42 rfl (by decide) ?_
      refine a_goto X 2 d_Ws_sumFromBehind_45 (by decide) ?_
      refine ab_sub [(0, .ref 16), (1, .int (nI (y + 1)))] rfl ?_
      exact ih (y + 1) (up2 le r.2.2 y (id (s.1 y 1))) (fun b h => by
        rw [up2_at]
        split
        · next e => rw [e.2]
        · exact hA b (by omega)) (by omega) (by omega)
set_option maxHeartbeats 4000000 in
set_option maxRecDepth 20000 in
theorem c_shp_c {E : ab_E} {l : Launch} {r : hR} {s : hS} {w c : hW} {b : hB} {d : hD} {k : hK} {t : hT} {Z : List ab_C} (hr : okR r) (hs : okS s) : ab_Con E l y_Ws_showPlaces b_Ws_showPlaces 3 none 2 47 [.ref 54] (hc r s w c b d k t ++ Z) 0 0 (fun v h1 => v = none ∧ ∃ f : hG, (∀ a b, a < r.2.2 → b < s.2.2 → f a b = shoR cuC s r a b) ∧ h1 = hc r s w (f, c.2) b d k t ++ Z) := by
  obtain ⟨hn, hsg⟩ := hr
  obtain ⟨hq, hw, hm⟩ := hs
  refine ab_con (own := "HiddenRows$WaySums") (ini := false) (by decide) (fun h => by cases h) rfl (Nat.le_of_ble_eq_true rfl) ?_
  intro G m X
  show ab_R E G m 3 0 0 0 [(0, .ref 54)] [] (hc r s w c b d k t ++ Z)
  refine a_iconst X (v := nI 0) d_Ws_showPlaces_0 (by decide) ?_
  refine a_istore_n X 1 d_Ws_showPlaces_1 rfl (by decide) ?_
  refine ab_sub [(0, .ref 54), (1, .int (nI 0))] rfl ?_
  suffices LP : ∀ (mm p : Nat) (f : hG), (∀ a b, a < p → b < s.2.2 → f a b = shoR cuC s r a b) → p ≤ r.2.2 → r.2.2 - p < mm → ab_R E G m 3 0 0 2 [(0, .ref 54), (1, .int (nI p))] [] (hc r s w (f, c.2) b d k t ++ Z) from LP (r.2.2 + 1) 0 c.1 (fun a b h => by omega) (by omega) (by omega)
  intro mm
  induction mm with
  | zero => intro p f hf h1 h2; exfalso; omega
  | succ mm ih =>
    intro p f hf h1 h2
    refine a_iload_n X 1 d_Ws_showPlaces_2 rfl rfl ?_
    refine a_aload_n X 0 d_Ws_showPlaces_3 rfl rfl ?_
    refine a_get X ff_Ws_32 d_Ws_showPlaces_4 hq_53 rfl ?_
    refine a_get X ff_Ws_47 d_Ws_showPlaces_7 hq_1 rfl ?_
    refine a_icmp_geN X 52 (by omega) (by omega) d_Ws_showPlaces_10 (by decide) (fun c10 => ?_) (fun c10 => ?_)
    ·
      exact a_vret X d_Ws_showPlaces_52 (Nat.le_refl _) (Nat.le_refl _) ⟨rfl, f, fun a b h hb => hf a b (by omega) hb, rfl⟩
    ·
      refine a_iconst X (v := nI 0) d_Ws_showPlaces_13 (by decide) ?_
      refine a_istore_n X 2 d_Ws_showPlaces_14 rfl (by decide) ?_
      refine ab_sub [(0, .ref 54), (1, .int (nI p)), (2, .int (nI 0))] rfl ?_
      suffices LP2 : ∀ (mm2 y : Nat) (g : hG), (∀ a b, a < p ∨ (a = p ∧ b < y) → b < s.2.2 → g a b = shoR cuC s r a b) → y ≤ s.2.2 → s.2.2 - y < mm2 → ab_R E G m 3 0 0 15 [(0, .ref 54), (1, .int (nI p)), (2, .int (nI y))] [] (hc r s w (g, c.2) b d k t ++ Z) from LP2 (s.2.2 + 1) 0 f (fun a b h hb => hf a b (by omega) hb) (by omega) (by omega)
      intro mm2
      induction mm2 with
      | zero => intro y g hg h3 h4; exfalso; omega
      | succ mm2 ih2 =>
        intro y g hg h3 h4
        refine a_iload_n X 2 d_Ws_showPlaces_15 rfl rfl ?_
        refine a_aload_n X 0 d_Ws_showPlaces_16 rfl rfl ?_
        refine a_get X ff_Ws_36 d_Ws_showPlaces_17 hq_53 rfl ?_
        refine a_get X ff_Ws_52 d_Ws_showPlaces_20 hq_4 rfl ?_
        refine a_icmp_geN X 46 (by omega) (by omega) d_Ws_showPlaces_23 (by decide) (fun c23 => ?_) (fun c23 => ?_)
        ·
          refine a_incN X d_Ws_showPlaces_46 rfl (by decide) ?_
          refine a_goto X 2 d_Ws_showPlaces_49 (by decide) ?_
          refine ab_sub [(0, .ref 54), (1, .int (nI (p + 1)))] rfl ?_
          exact ih (p + 1) g (fun a b h hb => hg a b (by omega) hb) (by omega) (by omega)
        ·
          refine a_aload_n X 0 d_Ws_showPlaces_26 rfl rfl ?_
          refine a_get X ff_Ws_11 d_Ws_showPlaces_27 hq_53 rfl ?_
          refine a_iload_n X 1 d_Ws_showPlaces_30 rfl rfl ?_
          refine a_aald X d_Ws_showPlaces_31 hq_54 rfl rfl (ab_ix_nI (by omega) (by decide)) (hg_csh (by omega)) ?_
          refine a_iload_n X 2 d_Ws_showPlaces_32 rfl rfl ?_
          refine a_aload_n X 0 d_Ws_showPlaces_33 rfl rfl ?_
          refine a_iload_n X 1 d_Ws_showPlaces_34 rfl rfl ?_
          refine a_iload_n X 2 d_Ws_showPlaces_35 rfl rfl ?_
          refine a_callV X (a := 53) (As := [.int (nI _), .int (nI _)]) hq_53 rfl fb_Ws_showOf lk_Ws_90 im_Ws_showOf se_Ws_showOf (c_sho_c hw (by omega) (by omega) hsg) rfl rfl (Nat.le_of_ble_eq_true rfl) (by decide) (by decide) (Nat.le_refl _) (Nat.le_refl _) d_Ws_showPlaces_36 (fun v h1 hp => ?_)
          obtain ⟨rfl, rfl⟩ := hp
          refine a_last X d_Ws_showPlaces_39 (hr_csh (by omega)) rfl (ab_ix_nI (by omega) (by decide)) ?_
          refine ab_hp (hw_csh (by omega)) ?_
          refine a_incN X d_Ws_showPlaces_40 rfl (by decide) ?_
          refine a_goto X 15 d_Ws_showPlaces_43 (by decide) ?_
          refine ab_sub [(0, .ref 54), (1, .int (nI p)), (2, .int (nI (y + 1)))] rfl ?_
          exact ih2 (y + 1) (up2 g p y (shoR cuC s r p y)) (fun a b h hb => by
            rw [up2_at]
            split
            · next e => rw [e.1, e.2]
            · exact hg a b (by omega) hb) (by omega) (by omega)
set_option maxHeartbeats 4000000 in
set_option maxRecDepth 20000 in
theorem c_sfb_c {E : ab_E} {l : Launch} {r : hR} {s : hS} {w c : hW} {b : hB} {d : hD} {k : hK} {t : hT} {Z : List ab_C} (hr : okR r) (hs : okS s) : ab_Con E l y_Ws_sumFromBehind b_Ws_sumFromBehind 3 none 3 73 [.ref 54] (hc r s w c b d k t ++ Z) 0 0 (fun v h1 => v = none ∧ ∃ fr le : hG, (∀ b, b < s.2.2 → le r.2.2 b = cuC (s.1 b 1)) ∧ (∀ a b, a < r.2.2 → b < s.2.2 → fr a b = lonR cuC s r.2.2 c.1 le 0 a b) ∧ (∀ a b, a < r.2.2 → b < s.2.2 → le a b = outR cuC s fr a b) ∧ h1 = hc r s w (c.1, fr, le, c.2.2.2) b d k t ++ Z) := by
  obtain ⟨hn, hsg⟩ := hr
  obtain ⟨hq, hw, hm⟩ := hs
  refine ab_con (own := "HiddenRows$WaySums") (ini := false) (by decide) (fun h => by cases h) rfl (Nat.le_of_ble_eq_true rfl) ?_
  intro G m X
  show ab_R E G m 3 0 0 0 [(0, .ref 54)] [] (hc r s w c b d k t ++ Z)
  refine a_iconst X (v := nI 0) d_Ws_sumFromBehind_0 (by decide) ?_
  refine a_istore_n X 1 d_Ws_sumFromBehind_1 rfl (by decide) ?_
  refine ab_sub [(0, .ref 54), (1, .int (nI 0))] rfl ?_
  suffices LP : ∀ (mm y : Nat) (le : hG), (∀ b, b < y → le r.2.2 b = cuC (s.1 b 1)) → y ≤ s.2.2 → s.2.2 - y < mm → ab_R E G m 3 0 0 2 [(0, .ref 54), (1, .int (nI y))] [] (hc r s w (c.1, c.2.1, le, c.2.2.2) b d k t ++ Z) from LP (s.2.2 + 1) 0 c.2.2.1 (fun b h => by omega) (by omega) (by omega)
  intro mm
  induction mm with
  | zero => intro y le hA h1 h2; exfalso; omega
  | succ mm ih =>
    intro y le hA h1 h2
    refine a_iload_n X 1 d_Ws_sumFromBehind_2 rfl rfl ?_
    refine a_aload_n X 0 d_Ws_sumFromBehind_3 rfl rfl ?_
    refine a_get X ff_Ws_36 d_Ws_sumFromBehind_4 hq_53 rfl ?_
    refine a_get X ff_Ws_52 d_Ws_sumFromBehind_7 hq_4 rfl ?_
    refine a_icmp_geN X 48 (by omega) (by omega) d_Ws_sumFromBehind_10 (by decide) (fun c10 => ?_) (fun c10 => ?_)
    ·
      refine a_aload_n X 0 d_Ws_sumFromBehind_48 rfl rfl ?_
      refine a_get X ff_Ws_32 d_Ws_sumFromBehind_49 hq_53 rfl ?_
      refine a_get X ff_Ws_47 d_Ws_sumFromBehind_52 hq_1 rfl ?_
      refine a_iconst X (v := nI 1) d_Ws_sumFromBehind_55 (by decide) ?_
      refine a_isub X d_Ws_sumFromBehind_56 ?_
      refine ab_topi (pm_sub _) ?_
      refine a_istore_n X 1 d_Ws_sumFromBehind_57 rfl (by decide) ?_
      refine ab_sub [(0, .ref 54), (1, .int (nI r.2.2 + (-1)))] rfl ?_
      suffices LP3 : ∀ (m3 : Nat) (fr le : hG), m3 ≤ r.2.2 → (∀ b, b < s.2.2 → le r.2.2 b = cuC (s.1 b 1)) → (∀ a b, m3 ≤ a → a < r.2.2 → b < s.2.2 → fr a b = lonR cuC s r.2.2 c.1 le 0 a b) → (∀ a b, m3 ≤ a → a < r.2.2 → b < s.2.2 → le a b = outR cuC s fr a b) → ab_R E G m 3 0 0 58 [(0, .ref 54), (1, .int (nI m3 + (-1)))] [] (hc r s w (c.1, fr, le, c.2.2.2) b d k t ++ Z) from LP3 r.2.2 c.2.1 le (by omega) (fun b hb => hA b (by omega)) (fun a b h1 h2 => by omega) (fun a b h1 h2 => by omega)
      clear ih
      intro m3
      induction m3 with
      | zero =>
        intro fr le h3 hA hF hL
        refine a_iload_n X 1 d_Ws_sumFromBehind_58 rfl rfl ?_
        refine a_if_lt X 135 d_Ws_sumFromBehind_59 (by decide) (fun c59 => ?_) (fun c59 => ?_)
        ·
          exact a_vret X d_Ws_sumFromBehind_135 (Nat.le_refl _) (Nat.le_refl _) ⟨rfl, fr, le, hA, fun a b h hb => hF a b (by omega) h hb, fun a b h hb => hL a b (by omega) h hb, rfl⟩
        ·
          exact absurd (by decide) c59
      | succ p ih3 =>
        intro fr le h3 hA hF hL
        rw [pk_m1 p]
        refine a_iload_n X 1 d_Ws_sumFromBehind_58 rfl rfl ?_
        refine a_if_ltN X 135 (by omega) d_Ws_sumFromBehind_59 (by decide) ?_
        refine a_iconst X (v := nI 0) d_Ws_sumFromBehind_62 (by decide) ?_
        refine a_istore_n X 2 d_Ws_sumFromBehind_63 rfl (by decide) ?_
        refine ab_sub [(0, .ref 54), (1, .int (nI p)), (2, .int (nI 0))] rfl ?_
        suffices LP4 : ∀ (m4 y : Nat) (fr : hG), (∀ a b, p + 1 ≤ a → a < r.2.2 → b < s.2.2 → fr a b = lonR cuC s r.2.2 c.1 le 0 a b) → (∀ a b, p + 1 ≤ a → a < r.2.2 → b < s.2.2 → le a b = outR cuC s fr a b) → (∀ b, b < y → fr p b = lonR cuC s r.2.2 c.1 le 0 p b) → y ≤ s.2.2 → s.2.2 - y < m4 → ab_R E G m 3 0 0 64 [(0, .ref 54), (1, .int (nI p)), (2, .int (nI y))] [] (hc r s w (c.1, fr, le, c.2.2.2) b d k t ++ Z) from LP4 (s.2.2 + 1) 0 fr hF hL (fun b h => by omega) (by omega) (by omega)
        clear hF hL fr
        intro m4
        induction m4 with
        | zero => intro y fr hF hL hP h4 h5; exfalso; omega
        | succ m4 ih4 =>
          intro y fr hF hL hP h4 h5
          refine a_iload_n X 2 d_Ws_sumFromBehind_64 rfl rfl ?_
          refine a_aload_n X 0 d_Ws_sumFromBehind_65 rfl rfl ?_
          refine a_get X ff_Ws_36 d_Ws_sumFromBehind_66 hq_53 rfl ?_
          refine a_get X ff_Ws_52 d_Ws_sumFromBehind_69 hq_4 rfl ?_
          refine a_icmp_geN X 96 (by omega) (by omega) d_Ws_sumFromBehind_72 (by decide) (fun c72 => ?_) (fun c72 => ?_)
          ·
            refine a_iconst X (v := nI 0) d_Ws_sumFromBehind_96 (by decide) ?_
            refine a_istore_n X 2 d_Ws_sumFromBehind_97 rfl (by decide) ?_
            refine ab_sub [(0, .ref 54), (1, .int (nI p)), (2, .int (nI 0))] rfl ?_
            suffices LP5 : ∀ (m5 y : Nat) (le : hG), (∀ b, b < s.2.2 → le r.2.2 b = cuC (s.1 b 1)) → (∀ a b, p ≤ a → a < r.2.2 → b < s.2.2 → fr a b = lonR cuC s r.2.2 c.1 le 0 a b) → (∀ a b, p + 1 ≤ a → a < r.2.2 → b < s.2.2 → le a b = outR cuC s fr a b) → (∀ b, b < y → le p b = outR cuC s fr p b) → y ≤ s.2.2 → s.2.2 - y < m5 → ab_R E G m 3 0 0 98 [(0, .ref 54), (1, .int (nI p)), (2, .int (nI y))] [] (hc r s w (c.1, fr, le, c.2.2.2) b d k t ++ Z) from LP5 (s.2.2 + 1) 0 le hA (fun a b h1 h2 h3 => by
              by_cases e : a = p
              · subst e
                exact hP b (by omega)
              · exact hF a b (by omega) h2 h3) hL (fun b h => by omega) (by omega) (by omega)
            clear hA hF hL hP ih4 le
            intro m5
            induction m5 with
            | zero => intro y le hA hF hL hP h4 h5; exfalso; omega
            | succ m5 ih5 =>
              intro y le hA hF hL hP h4 h5
              refine a_iload_n X 2 d_Ws_sumFromBehind_98 rfl rfl ?_
              refine a_aload_n X 0 d_Ws_sumFromBehind_99 rfl rfl ?_
              refine a_get X ff_Ws_36 d_Ws_sumFromBehind_100 hq_53 rfl ?_
              refine a_get X ff_Ws_52 d_Ws_sumFromBehind_103 hq_4 rfl ?_
              refine a_icmp_geN X 129 (by omega) (by omega) d_Ws_sumFromBehind_106 (by decide) (fun c106 => ?_) (fun c106 => ?_)
              ·
                refine a_iinc X d_Ws_sumFromBehind_129 rfl (v := nI p + (-1)) rfl (by decide) ?_
                refine a_goto X 58 d_Ws_sumFromBehind_132 (by decide) ?_
                refine ab_sub [(0, .ref 54), (1, .int (nI p + (-1)))] rfl ?_
                exact ih3 fr le (by omega) hA hF (fun a b h1 h2 h3 => by
                  by_cases e : a = p
                  · subst e
                    exact hP b (by omega)
                  · exact hL a b (by omega) h2 h3)
              ·
                refine a_aload_n X 0 d_Ws_sumFromBehind_109 rfl rfl ?_
                refine a_get X ff_Ws_19 d_Ws_sumFromBehind_110 hq_53 rfl ?_
                refine a_iload_n X 1 d_Ws_sumFromBehind_113 rfl rfl ?_
                refine a_aald X d_Ws_sumFromBehind_114 hq_68 rfl rfl (ab_ix_nI (by omega) (by decide)) (hg_cle (by omega)) ?_
                refine a_iload_n X 2 d_Ws_sumFromBehind_115 rfl rfl ?_
                refine a_aload_n X 0 d_Ws_sumFromBehind_116 rfl rfl ?_
                refine a_iload_n X 1 d_Ws_sumFromBehind_117 rfl rfl ?_
                refine a_iload_n X 2 d_Ws_sumFromBehind_118 rfl rfl ?_
                refine a_callV X (a := 53) (As := [.int (nI _), .int (nI _)]) hq_53 rfl fb_Ws_movedOutOf lk_Ws_101 im_Ws_movedOutOf se_Ws_movedOutOf (c_out_c hm hq (by omega) (by omega)) rfl rfl (Nat.le_of_ble_eq_true rfl) (by decide) (by decide) (Nat.le_refl _) (Nat.le_refl _) d_Ws_sumFromBehind_119 (fun v h1 hp => ?_)
                obtain ⟨rfl, rfl⟩ := hp
                refine a_last X d_Ws_sumFromBehind_122 (hr_cle (by omega)) rfl (ab_ix_nI (by omega) (by decide)) ?_
                refine ab_hp (hw_cle (by omega)) ?_
                refine a_incN X d_Ws_sumFromBehind_123 rfl (by decide) ?_
                refine a_goto X 98 d_Ws_sumFromBehind_126 (by decide) ?_
                refine ab_sub [(0, .ref 54), (1, .int (nI p)), (2, .int (nI (y + 1)))] rfl ?_
                exact ih5 (y + 1) (up2 le p y (outR cuC s fr p y)) (fun b hb => by rw [up2_row (by omega)]; exact hA b hb) (fun a b h1 h2 h3 => by rw [lonR_congr (g' := le) (fun z hz _ => by rw [up2_row (by omega)])]; exact hF a b h1 h2 h3) (fun a b h1 h2 h3 => by rw [up2_row (by omega)]; exact hL a b h1 h2 h3) (fun b h => by
                  rw [up2_at]
                  split
                  · next e => rw [e.2]
                  · exact hP b (by omega)) (by omega) (by omega)
          ·
            refine a_aload_n X 0 d_Ws_sumFromBehind_75 rfl rfl ?_
            refine a_get X ff_Ws_16 d_Ws_sumFromBehind_76 hq_53 rfl ?_
            refine a_iload_n X 1 d_Ws_sumFromBehind_79 rfl rfl ?_
            refine a_aald X d_Ws_sumFromBehind_80 hq_61 rfl rfl (ab_ix_nI (by omega) (by decide)) (hg_cfr (by omega)) ?_
            refine a_iload_n X 2 d_Ws_sumFromBehind_81 rfl rfl ?_
            refine a_aload_n X 0 d_Ws_sumFromBehind_82 rfl rfl ?_
            refine a_iconst X (v := nI 0) d_Ws_sumFromBehind_83 (by decide) ?_
            refine a_iload_n X 1 d_Ws_sumFromBehind_84 rfl rfl ?_
            refine a_iload_n X 2 d_Ws_sumFromBehind_85 rfl rfl ?_
            refine a_callV X (a := 53) (As := [.int (nI _), .int (nI _), .int (nI _)]) hq_53 rfl fb_Ws_longerThan lk_Ws_63 im_Ws_longerThan se_Ws_longerThan (c_lon_c hw hn (by omega) (by omega) (by omega)) rfl rfl (Nat.le_of_ble_eq_true rfl) (by decide) (by decide) (Nat.le_refl _) (Nat.le_refl _) d_Ws_sumFromBehind_86 (fun v h1 hp => ?_)
            obtain ⟨rfl, rfl⟩ := hp
            refine a_last X d_Ws_sumFromBehind_89 (hr_cfr (by omega)) rfl (ab_ix_nI (by omega) (by decide)) ?_
            refine ab_hp (hw_cfr (by omega)) ?_
            refine a_incN X d_Ws_sumFromBehind_90 rfl (by decide) ?_
            refine a_goto X 64 d_Ws_sumFromBehind_93 (by decide) ?_
            refine ab_sub [(0, .ref 54), (1, .int (nI p)), (2, .int (nI (y + 1)))] rfl ?_
            exact ih4 (y + 1) (up2 fr p y (lonR cuC s r.2.2 c.1 le 0 p y)) (fun a b h1 h2 h3 => by rw [up2_row (by omega)]; exact hF a b h1 h2 h3) (fun a b h1 h2 h3 => by rw [outR_congr (up2_row (by omega))]; exact hL a b h1 h2 h3) (fun b h => by
              rw [up2_at]
              split
              · next e => rw [e.2]
              · exact hP b (by omega)) (by omega) (by omega)
    ·
      refine a_aload_n X 0 d_Ws_sumFromBehind_13 rfl rfl ?_
      refine a_get X ff_Ws_19 d_Ws_sumFromBehind_14 hq_53 rfl ?_
      refine a_aload_n X 0 d_Ws_sumFromBehind_17 rfl rfl ?_
      refine a_get X ff_Ws_32 d_Ws_sumFromBehind_18 hq_53 rfl ?_
      refine a_get X ff_Ws_47 d_Ws_sumFromBehind_21 hq_1 rfl ?_
      refine a_aald X d_Ws_sumFromBehind_24 hq_68 rfl rfl (ab_ix_nI (by omega) (by decide)) (hg_cle (by omega)) ?_
      refine a_iload_n X 1 d_Ws_sumFromBehind_25 rfl rfl ?_
      refine a_aload_n X 0 d_Ws_sumFromBehind_26 rfl rfl ?_
      refine a_aload_n X 0 d_Ws_sumFromBehind_27 rfl rfl ?_
      refine a_get X ff_Ws_36 d_Ws_sumFromBehind_28 hq_53 rfl ?_
      refine a_get X ff_Ws_78 d_Ws_sumFromBehind_31 hq_4 rfl ?_
      refine a_iload_n X 1 d_Ws_sumFromBehind_34 rfl rfl ?_
      refine a_aald X d_Ws_sumFromBehind_35 hq_5 rfl rfl (ab_ix_nI (by omega) (by decide)) (hg_wt (by omega)) ?_
      refine a_iconst X (v := nI 1) d_Ws_sumFromBehind_36 (by decide) ?_
      refine a_iald X d_Ws_sumFromBehind_37 (hr_wt (by omega)) rfl (ab_ix_nI (by omega) (by decide)) ?_
      refine a_callV X (a := 53) (As := [.int (nI _)]) hq_53 rfl fb_Ws_cut lk_Ws_71 im_Ws_cut se_Ws_cut (c_cut_c (by have := hw y 1; omega)) rfl rfl (Nat.le_of_ble_eq_true rfl) (by decide) (by decide) (Nat.le_refl _) (Nat.le_refl _) d_Ws_sumFromBehind_38 (fun v h1 hp => ?_)
      obtain ⟨rfl, rfl⟩ := hp
      refine a_last X d_Ws_sumFromBehind_41 (hr_cle (by omega)) rfl (ab_ix_nI (by omega) (by decide)) ?_
      refine ab_hp (hw_cle (by omega)) ?_
      refine a_incN X d_Ws_sumFromBehind_42 rfl (by decide) ?_
      refine a_goto X 2 d_Ws_sumFromBehind_45 (by decide) ?_
      refine ab_sub [(0, .ref 54), (1, .int (nI (y + 1)))] rfl ?_
      exact ih (y + 1) (up2 le r.2.2 y (cuC (s.1 y 1))) (fun b h => by
        rw [up2_at]
        split
        · next e => rw [e.2]
        · exact hA b (by omega)) (by omega) (by omega)
end
