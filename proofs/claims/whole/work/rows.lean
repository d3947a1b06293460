section
-- ===== PART A: goes FIRST, ahead of the names: the tables' words, and 'selects' of the private methods out of them =====
/-- a private method of a class that the tables say can be made, by its rows of tables_1 -/
def lw_okq (q : MethodName × Nat) : Prop := (q.1.cls ≠ "java/lang/invoke/MethodHandle" ∧ q.1.cls ≠ "java/lang/invoke/VarHandle") ∧ Cond.instantiable q.1.cls q.2 ∈ tables_1 ∧ Cond.privateMethod q.1 ∈ tables_1 ∧ Cond.instanceMethod q.1 ∈ tables_1
theorem lw_p0 : lw_okq (⟨"HiddenRows", "forgetWays", "()V"⟩, 8) := ⟨⟨by decide +kernel, by decide +kernel⟩, List.mem_of_getElem? (i := 13) (by decide +kernel), List.mem_of_getElem? (i := 292) (by decide +kernel), List.mem_of_getElem? (i := 293) (by decide +kernel)⟩
theorem lw_p1 : lw_okq (⟨"HiddenRows", "forgetTrees", "()V"⟩, 8) := ⟨⟨by decide +kernel, by decide +kernel⟩, List.mem_of_getElem? (i := 13) (by decide +kernel), List.mem_of_getElem? (i := 319) (by decide +kernel), List.mem_of_getElem? (i := 320) (by decide +kernel)⟩
theorem lw_p2 : lw_okq (⟨"HiddenRows$WaySums", "showPlaces", "()V"⟩, 9) := ⟨⟨by decide +kernel, by decide +kernel⟩, List.mem_of_getElem? (i := 77) (by decide +kernel), List.mem_of_getElem? (i := 370) (by decide +kernel), List.mem_of_getElem? (i := 371) (by decide +kernel)⟩
theorem lw_p3 : lw_okq (⟨"HiddenRows$WaySums", "showOf", "(II)J"⟩, 9) := ⟨⟨by decide +kernel, by decide +kernel⟩, List.mem_of_getElem? (i := 77) (by decide +kernel), List.mem_of_getElem? (i := 374) (by decide +kernel), List.mem_of_getElem? (i := 375) (by decide +kernel)⟩
theorem lw_p4 : lw_okq (⟨"HiddenRows$WaySums", "cut", "(I)J"⟩, 9) := ⟨⟨by decide +kernel, by decide +kernel⟩, List.mem_of_getElem? (i := 77) (by decide +kernel), List.mem_of_getElem? (i := 378) (by decide +kernel), List.mem_of_getElem? (i := 379) (by decide +kernel)⟩
theorem lw_p5 : lw_okq (⟨"HiddenRows$WaySums", "sumFromBehind", "()V"⟩, 9) := ⟨⟨by decide +kernel, by decide +kernel⟩, List.mem_of_getElem? (i := 77) (by decide +kernel), List.mem_of_getElem? (i := 382) (by decide +kernel), List.mem_of_getElem? (i := 383) (by decide +kernel)⟩
theorem lw_p6 : lw_okq (⟨"HiddenRows$WaySums", "movedOutOf", "(II)J"⟩, 9) := ⟨⟨by decide +kernel, by decide +kernel⟩, List.mem_of_getElem? (i := 77) (by decide +kernel), List.mem_of_getElem? (i := 394) (by decide +kernel), List.mem_of_getElem? (i := 395) (by decide +kernel)⟩
theorem lw_p7 : lw_okq (⟨"HiddenRows$WaySums", "sumFromAhead", "()V"⟩, 9) := ⟨⟨by decide +kernel, by decide +kernel⟩, List.mem_of_getElem? (i := 77) (by decide +kernel), List.mem_of_getElem? (i := 398) (by decide +kernel), List.mem_of_getElem? (i := 399) (by decide +kernel)⟩
theorem lw_p8 : lw_okq (⟨"HiddenRows$WaySums", "movedInto", "(II)J"⟩, 9) := ⟨⟨by decide +kernel, by decide +kernel⟩, List.mem_of_getElem? (i := 77) (by decide +kernel), List.mem_of_getElem? (i := 402) (by decide +kernel), List.mem_of_getElem? (i := 403) (by decide +kernel)⟩
theorem lw_p9 : lw_okq (⟨"HiddenRows$WaySums", "endedBefore", "(II)J"⟩, 9) := ⟨⟨by decide +kernel, by decide +kernel⟩, List.mem_of_getElem? (i := 77) (by decide +kernel), List.mem_of_getElem? (i := 406) (by decide +kernel), List.mem_of_getElem? (i := 407) (by decide +kernel)⟩
theorem lw_p10 : lw_okq (⟨"HiddenRows$BestWays", "listEnds", "(II)V"⟩, 6) := ⟨⟨by decide +kernel, by decide +kernel⟩, List.mem_of_getElem? (i := 117) (by decide +kernel), List.mem_of_getElem? (i := 466) (by decide +kernel), List.mem_of_getElem? (i := 467) (by decide +kernel)⟩
theorem lw_p11 : lw_okq (⟨"HiddenRows$BestWays", "endsFrom", "(II)LHiddenRows$WayList;"⟩, 6) := ⟨⟨by decide +kernel, by decide +kernel⟩, List.mem_of_getElem? (i := 117) (by decide +kernel), List.mem_of_getElem? (i := 470) (by decide +kernel), List.mem_of_getElem? (i := 471) (by decide +kernel)⟩
theorem lw_p12 : lw_okq (⟨"HiddenRows$WayList", "isBetter", "(JII)Z"⟩, 3) := ⟨⟨by decide +kernel, by decide +kernel⟩, List.mem_of_getElem? (i := 124) (by decide +kernel), List.mem_of_getElem? (i := 479) (by decide +kernel), List.mem_of_getElem? (i := 480) (by decide +kernel)⟩
theorem lw_p13 : lw_okq (⟨"HiddenRows$BestWays", "offerMoves", "(LHiddenRows$WayList;JIII)V"⟩, 6) := ⟨⟨by decide +kernel, by decide +kernel⟩, List.mem_of_getElem? (i := 117) (by decide +kernel), List.mem_of_getElem? (i := 486) (by decide +kernel), List.mem_of_getElem? (i := 487) (by decide +kernel)⟩
theorem lw_p14 : lw_okq (⟨"HiddenRows$BestWays", "listWhole", "()V"⟩, 6) := ⟨⟨by decide +kernel, by decide +kernel⟩, List.mem_of_getElem? (i := 117) (by decide +kernel), List.mem_of_getElem? (i := 493) (by decide +kernel), List.mem_of_getElem? (i := 494) (by decide +kernel)⟩
theorem lw_p15 : lw_okq (⟨"HiddenRows$Drawing", "openSegment", "(I)J"⟩, 9) := ⟨⟨by decide +kernel, by decide +kernel⟩, List.mem_of_getElem? (i := 166) (by decide +kernel), List.mem_of_getElem? (i := 520) (by decide +kernel), List.mem_of_getElem? (i := 521) (by decide +kernel)⟩
def lw_privs_1 : List (MethodName × Nat) := [(⟨"HiddenRows", "forgetWays", "()V"⟩, 8), (⟨"HiddenRows", "forgetTrees", "()V"⟩, 8), (⟨"HiddenRows$WaySums", "showPlaces", "()V"⟩, 9), (⟨"HiddenRows$WaySums", "showOf", "(II)J"⟩, 9), (⟨"HiddenRows$WaySums", "cut", "(I)J"⟩, 9), (⟨"HiddenRows$WaySums", "sumFromBehind", "()V"⟩, 9), (⟨"HiddenRows$WaySums", "movedOutOf", "(II)J"⟩, 9), (⟨"HiddenRows$WaySums", "sumFromAhead", "()V"⟩, 9), (⟨"HiddenRows$WaySums", "movedInto", "(II)J"⟩, 9), (⟨"HiddenRows$WaySums", "endedBefore", "(II)J"⟩, 9), (⟨"HiddenRows$BestWays", "listEnds", "(II)V"⟩, 6), (⟨"HiddenRows$BestWays", "endsFrom", "(II)LHiddenRows$WayList;"⟩, 6), (⟨"HiddenRows$WayList", "isBetter", "(JII)Z"⟩, 3), (⟨"HiddenRows$BestWays", "offerMoves", "(LHiddenRows$WayList;JIII)V"⟩, 6), (⟨"HiddenRows$BestWays", "listWhole", "()V"⟩, 6), (⟨"HiddenRows$Drawing", "openSegment", "(I)J"⟩, 9)]
theorem lw_r1 : ∀ q ∈ lw_privs_1, lw_okq q := List.forall_mem_cons.mpr ⟨lw_p0, List.forall_mem_cons.mpr ⟨lw_p1, List.forall_mem_cons.mpr ⟨lw_p2, List.forall_mem_cons.mpr ⟨lw_p3, List.forall_mem_cons.mpr ⟨lw_p4, List.forall_mem_cons.mpr ⟨lw_p5, List.forall_mem_cons.mpr ⟨lw_p6, List.forall_mem_cons.mpr ⟨lw_p7, List.forall_mem_cons.mpr ⟨lw_p8, List.forall_mem_cons.mpr ⟨lw_p9, List.forall_mem_cons.mpr ⟨lw_p10, List.forall_mem_cons.mpr ⟨lw_p11, List.forall_mem_cons.mpr ⟨lw_p12, List.forall_mem_cons.mpr ⟨lw_p13, List.forall_mem_cons.mpr ⟨lw_p14, List.forall_mem_cons.mpr ⟨lw_p15, fun _ h => absurd h List.not_mem_nil⟩⟩⟩⟩⟩⟩⟩⟩⟩⟩⟩⟩⟩⟩⟩⟩
theorem lw_p16 : lw_okq (⟨"HiddenRows$Drawing", "tellPlace", "(IJ)J"⟩, 9) := ⟨⟨by decide +kernel, by decide +kernel⟩, List.mem_of_getElem? (i := 166) (by decide +kernel), List.mem_of_getElem? (i := 525) (by decide +kernel), List.mem_of_getElem? (i := 526) (by decide +kernel)⟩
theorem lw_p17 : lw_okq (⟨"HiddenRows$Drawing", "sumTelling", "(II)J"⟩, 9) := ⟨⟨by decide +kernel, by decide +kernel⟩, List.mem_of_getElem? (i := 166) (by decide +kernel), List.mem_of_getElem? (i := 529) (by decide +kernel), List.mem_of_getElem? (i := 530) (by decide +kernel)⟩
theorem lw_p18 : lw_okq (⟨"HiddenRows$Drawing", "closing", "(II)J"⟩, 9) := ⟨⟨by decide +kernel, by decide +kernel⟩, List.mem_of_getElem? (i := 166) (by decide +kernel), List.mem_of_getElem? (i := 533) (by decide +kernel), List.mem_of_getElem? (i := 534) (by decide +kernel)⟩
theorem lw_p19 : lw_okq (⟨"HiddenRows$Drawing", "take", "(II)V"⟩, 9) := ⟨⟨by decide +kernel, by decide +kernel⟩, List.mem_of_getElem? (i := 166) (by decide +kernel), List.mem_of_getElem? (i := 538) (by decide +kernel), List.mem_of_getElem? (i := 539) (by decide +kernel)⟩
theorem lw_p20 : lw_okq (⟨"HiddenRows$TreeTables", "refresh", "()V"⟩, 10) := ⟨⟨by decide +kernel, by decide +kernel⟩, List.mem_of_getElem? (i := 224) (by decide +kernel), List.mem_of_getElem? (i := 554) (by decide +kernel), List.mem_of_getElem? (i := 555) (by decide +kernel)⟩
theorem lw_p21 : lw_okq (⟨"HiddenRows$TreeTables", "fill", "(III)V"⟩, 10) := ⟨⟨by decide +kernel, by decide +kernel⟩, List.mem_of_getElem? (i := 224) (by decide +kernel), List.mem_of_getElem? (i := 558) (by decide +kernel), List.mem_of_getElem? (i := 559) (by decide +kernel)⟩
theorem lw_p22 : lw_okq (⟨"HiddenRows$TreeTables", "addSplit", "(IIII)V"⟩, 10) := ⟨⟨by decide +kernel, by decide +kernel⟩, List.mem_of_getElem? (i := 224) (by decide +kernel), List.mem_of_getElem? (i := 572) (by decide +kernel), List.mem_of_getElem? (i := 573) (by decide +kernel)⟩
theorem lw_p23 : lw_okq (⟨"HiddenRows$TreeTables", "push", "(II)V"⟩, 10) := ⟨⟨by decide +kernel, by decide +kernel⟩, List.mem_of_getElem? (i := 224) (by decide +kernel), List.mem_of_getElem? (i := 604) (by decide +kernel), List.mem_of_getElem? (i := 605) (by decide +kernel)⟩
theorem lw_p24 : lw_okq (⟨"HiddenRows$TreeTables", "tellNode", "(II)I"⟩, 10) := ⟨⟨by decide +kernel, by decide +kernel⟩, List.mem_of_getElem? (i := 224) (by decide +kernel), List.mem_of_getElem? (i := 608) (by decide +kernel), List.mem_of_getElem? (i := 609) (by decide +kernel)⟩
theorem lw_p25 : lw_okq (⟨"HiddenRows$TreeTables", "bestParts", "(IIII)I"⟩, 10) := ⟨⟨by decide +kernel, by decide +kernel⟩, List.mem_of_getElem? (i := 224) (by decide +kernel), List.mem_of_getElem? (i := 612) (by decide +kernel), List.mem_of_getElem? (i := 613) (by decide +kernel)⟩
theorem lw_p26 : lw_okq (⟨"HiddenRows$TreeTables", "addAround", "(IIII)V"⟩, 10) := ⟨⟨by decide +kernel, by decide +kernel⟩, List.mem_of_getElem? (i := 224) (by decide +kernel), List.mem_of_getElem? (i := 624) (by decide +kernel), List.mem_of_getElem? (i := 625) (by decide +kernel)⟩
theorem lw_p27 : lw_okq (⟨"HiddenRows$TreeTables", "addProducts", "(I[[JI[[JI)V"⟩, 10) := ⟨⟨by decide +kernel, by decide +kernel⟩, List.mem_of_getElem? (i := 224) (by decide +kernel), List.mem_of_getElem? (i := 628) (by decide +kernel), List.mem_of_getElem? (i := 629) (by decide +kernel)⟩
theorem lw_p28 : lw_okq (⟨"HiddenRowsModel", "change", "()V"⟩, 27) := ⟨⟨by decide +kernel, by decide +kernel⟩, List.mem_of_getElem? (i := 632) (by decide +kernel), List.mem_of_getElem? (i := 724) (by decide +kernel), List.mem_of_getElem? (i := 725) (by decide +kernel)⟩
theorem lw_p29 : lw_okq (⟨"HiddenRowsModel", "isState", "(I)Z"⟩, 27) := ⟨⟨by decide +kernel, by decide +kernel⟩, List.mem_of_getElem? (i := 632) (by decide +kernel), List.mem_of_getElem? (i := 732) (by decide +kernel), List.mem_of_getElem? (i := 733) (by decide +kernel)⟩
theorem lw_p30 : lw_okq (⟨"HiddenRowsModel", "isKind", "(I)Z"⟩, 27) := ⟨⟨by decide +kernel, by decide +kernel⟩, List.mem_of_getElem? (i := 632) (by decide +kernel), List.mem_of_getElem? (i := 751) (by decide +kernel), List.mem_of_getElem? (i := 752) (by decide +kernel)⟩
theorem lw_p31 : lw_okq (⟨"HiddenRowsModel", "isPlace", "(I)Z"⟩, 27) := ⟨⟨by decide +kernel, by decide +kernel⟩, List.mem_of_getElem? (i := 632) (by decide +kernel), List.mem_of_getElem? (i := 771) (by decide +kernel), List.mem_of_getElem? (i := 772) (by decide +kernel)⟩
def lw_privs_2 : List (MethodName × Nat) := [(⟨"HiddenRows$Drawing", "tellPlace", "(IJ)J"⟩, 9), (⟨"HiddenRows$Drawing", "sumTelling", "(II)J"⟩, 9), (⟨"HiddenRows$Drawing", "closing", "(II)J"⟩, 9), (⟨"HiddenRows$Drawing", "take", "(II)V"⟩, 9), (⟨"HiddenRows$TreeTables", "refresh", "()V"⟩, 10), (⟨"HiddenRows$TreeTables", "fill", "(III)V"⟩, 10), (⟨"HiddenRows$TreeTables", "addSplit", "(IIII)V"⟩, 10), (⟨"HiddenRows$TreeTables", "push", "(II)V"⟩, 10), (⟨"HiddenRows$TreeTables", "tellNode", "(II)I"⟩, 10), (⟨"HiddenRows$TreeTables", "bestParts", "(IIII)I"⟩, 10), (⟨"HiddenRows$TreeTables", "addAround", "(IIII)V"⟩, 10), (⟨"HiddenRows$TreeTables", "addProducts", "(I[[JI[[JI)V"⟩, 10), (⟨"HiddenRowsModel", "change", "()V"⟩, 27), (⟨"HiddenRowsModel", "isState", "(I)Z"⟩, 27), (⟨"HiddenRowsModel", "isKind", "(I)Z"⟩, 27), (⟨"HiddenRowsModel", "isPlace", "(I)Z"⟩, 27)]
theorem lw_r2 : ∀ q ∈ lw_privs_2, lw_okq q := List.forall_mem_cons.mpr ⟨lw_p16, List.forall_mem_cons.mpr ⟨lw_p17, List.forall_mem_cons.mpr ⟨lw_p18, List.forall_mem_cons.mpr ⟨lw_p19, List.forall_mem_cons.mpr ⟨lw_p20, List.forall_mem_cons.mpr ⟨lw_p21, List.forall_mem_cons.mpr ⟨lw_p22, List.forall_mem_cons.mpr ⟨lw_p23, List.forall_mem_cons.mpr ⟨lw_p24, List.forall_mem_cons.mpr ⟨lw_p25, List.forall_mem_cons.mpr ⟨lw_p26, List.forall_mem_cons.mpr ⟨lw_p27, List.forall_mem_cons.mpr ⟨lw_p28, List.forall_mem_cons.mpr ⟨lw_p29, List.forall_mem_cons.mpr ⟨lw_p30, List.forall_mem_cons.mpr ⟨lw_p31, fun _ h => absurd h List.not_mem_nil⟩⟩⟩⟩⟩⟩⟩⟩⟩⟩⟩⟩⟩⟩⟩⟩
theorem lw_p32 : lw_okq (⟨"HiddenRowsModel", "know", "()V"⟩, 27) := ⟨⟨by decide +kernel, by decide +kernel⟩, List.mem_of_getElem? (i := 632) (by decide +kernel), List.mem_of_getElem? (i := 779) (by decide +kernel), List.mem_of_getElem? (i := 780) (by decide +kernel)⟩
theorem lw_p33 : lw_okq (⟨"HiddenRowsModel", "next", "(Z)Z"⟩, 27) := ⟨⟨by decide +kernel, by decide +kernel⟩, List.mem_of_getElem? (i := 632) (by decide +kernel), List.mem_of_getElem? (i := 783) (by decide +kernel), List.mem_of_getElem? (i := 784) (by decide +kernel)⟩
theorem lw_p34 : lw_okq (⟨"HiddenRowsModel", "canBe", "(II)Z"⟩, 27) := ⟨⟨by decide +kernel, by decide +kernel⟩, List.mem_of_getElem? (i := 632) (by decide +kernel), List.mem_of_getElem? (i := 787) (by decide +kernel), List.mem_of_getElem? (i := 788) (by decide +kernel)⟩
theorem lw_p35 : lw_okq (⟨"HiddenRowsModel", "stay", "(I)I"⟩, 27) := ⟨⟨by decide +kernel, by decide +kernel⟩, List.mem_of_getElem? (i := 632) (by decide +kernel), List.mem_of_getElem? (i := 791) (by decide +kernel), List.mem_of_getElem? (i := 792) (by decide +kernel)⟩
theorem lw_p36 : lw_okq (⟨"HiddenRowsModel", "weightOf", "()J"⟩, 27) := ⟨⟨by decide +kernel, by decide +kernel⟩, List.mem_of_getElem? (i := 632) (by decide +kernel), List.mem_of_getElem? (i := 795) (by decide +kernel), List.mem_of_getElem? (i := 796) (by decide +kernel)⟩
theorem lw_p37 : lw_okq (⟨"HiddenRowsModel", "show", "(II)I"⟩, 27) := ⟨⟨by decide +kernel, by decide +kernel⟩, List.mem_of_getElem? (i := 632) (by decide +kernel), List.mem_of_getElem? (i := 799) (by decide +kernel), List.mem_of_getElem? (i := 800) (by decide +kernel)⟩
theorem lw_p38 : lw_okq (⟨"HiddenRowsModel", "add", "(J)V"⟩, 27) := ⟨⟨by decide +kernel, by decide +kernel⟩, List.mem_of_getElem? (i := 632) (by decide +kernel), List.mem_of_getElem? (i := 803) (by decide +kernel), List.mem_of_getElem? (i := 804) (by decide +kernel)⟩
theorem lw_p39 : lw_okq (⟨"HiddenRowsModel", "keep", "(J)V"⟩, 27) := ⟨⟨by decide +kernel, by decide +kernel⟩, List.mem_of_getElem? (i := 632) (by decide +kernel), List.mem_of_getElem? (i := 807) (by decide +kernel), List.mem_of_getElem? (i := 808) (by decide +kernel)⟩
theorem lw_p40 : lw_okq (⟨"HiddenRowsModel", "findTrees", "(III)V"⟩, 27) := ⟨⟨by decide +kernel, by decide +kernel⟩, List.mem_of_getElem? (i := 632) (by decide +kernel), List.mem_of_getElem? (i := 863) (by decide +kernel), List.mem_of_getElem? (i := 864) (by decide +kernel)⟩
theorem lw_p41 : lw_okq (⟨"HiddenRowsModel", "findSpan", "(III)V"⟩, 27) := ⟨⟨by decide +kernel, by decide +kernel⟩, List.mem_of_getElem? (i := 632) (by decide +kernel), List.mem_of_getElem? (i := 867) (by decide +kernel), List.mem_of_getElem? (i := 868) (by decide +kernel)⟩
theorem lw_p42 : lw_okq (⟨"HiddenRowsModel", "leafOf", "(II)J"⟩, 27) := ⟨⟨by decide +kernel, by decide +kernel⟩, List.mem_of_getElem? (i := 632) (by decide +kernel), List.mem_of_getElem? (i := 874) (by decide +kernel), List.mem_of_getElem? (i := 875) (by decide +kernel)⟩
theorem lw_p43 : lw_okq (⟨"HiddenRowsModel", "whole", "(I)I"⟩, 27) := ⟨⟨by decide +kernel, by decide +kernel⟩, List.mem_of_getElem? (i := 632) (by decide +kernel), List.mem_of_getElem? (i := 878) (by decide +kernel), List.mem_of_getElem? (i := 879) (by decide +kernel)⟩
theorem lw_p44 : lw_okq (⟨"HiddenRowsModel", "leastOf", "(III)I"⟩, 27) := ⟨⟨by decide +kernel, by decide +kernel⟩, List.mem_of_getElem? (i := 632) (by decide +kernel), List.mem_of_getElem? (i := 895) (by decide +kernel), List.mem_of_getElem? (i := 896) (by decide +kernel)⟩
def lw_privs_3 : List (MethodName × Nat) := [(⟨"HiddenRowsModel", "know", "()V"⟩, 27), (⟨"HiddenRowsModel", "next", "(Z)Z"⟩, 27), (⟨"HiddenRowsModel", "canBe", "(II)Z"⟩, 27), (⟨"HiddenRowsModel", "stay", "(I)I"⟩, 27), (⟨"HiddenRowsModel", "weightOf", "()J"⟩, 27), (⟨"HiddenRowsModel", "show", "(II)I"⟩, 27), (⟨"HiddenRowsModel", "add", "(J)V"⟩, 27), (⟨"HiddenRowsModel", "keep", "(J)V"⟩, 27), (⟨"HiddenRowsModel", "findTrees", "(III)V"⟩, 27), (⟨"HiddenRowsModel", "findSpan", "(III)V"⟩, 27), (⟨"HiddenRowsModel", "leafOf", "(II)J"⟩, 27), (⟨"HiddenRowsModel", "whole", "(I)I"⟩, 27), (⟨"HiddenRowsModel", "leastOf", "(III)I"⟩, 27)]
theorem lw_r3 : ∀ q ∈ lw_privs_3, lw_okq q := List.forall_mem_cons.mpr ⟨lw_p32, List.forall_mem_cons.mpr ⟨lw_p33, List.forall_mem_cons.mpr ⟨lw_p34, List.forall_mem_cons.mpr ⟨lw_p35, List.forall_mem_cons.mpr ⟨lw_p36, List.forall_mem_cons.mpr ⟨lw_p37, List.forall_mem_cons.mpr ⟨lw_p38, List.forall_mem_cons.mpr ⟨lw_p39, List.forall_mem_cons.mpr ⟨lw_p40, List.forall_mem_cons.mpr ⟨lw_p41, List.forall_mem_cons.mpr ⟨lw_p42, List.forall_mem_cons.mpr ⟨lw_p43, List.forall_mem_cons.mpr ⟨lw_p44, fun _ h => absurd h List.not_mem_nil⟩⟩⟩⟩⟩⟩⟩⟩⟩⟩⟩⟩⟩
def lw_privs : List (MethodName × Nat) := lw_privs_1 ++ (lw_privs_2 ++ (lw_privs_3))
def lw_tbl : List Cond := k2_sels lw_privs ++ tables_1
theorem lw_privs_ok : ∀ q ∈ lw_privs, lw_okq q := by
  show ∀ q ∈ lw_privs_1 ++ (lw_privs_2 ++ (lw_privs_3)), lw_okq q
  exact List.forall_mem_append.mpr ⟨lw_r1, List.forall_mem_append.mpr ⟨lw_r2, lw_r3⟩⟩
end
section
/-! names: by program out of the Statement -/
def F_H : u_T := fun k => match k with
  | 0 => ("HiddenRows", "row", "LHiddenRows$Row;", true)
  | 1 => ("HiddenRows", "states", "LHiddenRows$States;", true)
  | 2 => ("HiddenRows", "sums", "LHiddenRows$WaySums;", true)
  | 3 => ("HiddenRows", "counts", "LHiddenRows$WaySums;", true)
  | 4 => ("HiddenRows", "bests", "LHiddenRows$BestWays;", true)
  | 5 => ("HiddenRows", "drawing", "LHiddenRows$Drawing;", true)
  | 6 => ("HiddenRows", "kinds", "LHiddenRows$Kinds;", true)
  | _ => ("HiddenRows", "tables", "LHiddenRows$TreeTables;", true)
def t_H : Nat → FieldType := fun k => match k with
  | 0 => (.object "HiddenRows$Row")
  | 1 => (.object "HiddenRows$States")
  | 2 => (.object "HiddenRows$WaySums")
  | 3 => (.object "HiddenRows$WaySums")
  | 4 => (.object "HiddenRows$BestWays")
  | 5 => (.object "HiddenRows$Drawing")
  | 6 => (.object "HiddenRows$Kinds")
  | _ => (.object "HiddenRows$TreeTables")
def F_Ro : u_T := fun k => match k with
  | 0 => ("HiddenRows$Row", "signs", "[I", true)
  | 1 => ("HiddenRows$Row", "held", "[I", true)
  | _ => ("HiddenRows$Row", "length", "I", false)
def t_Ro : Nat → FieldType := fun k => match k with
  | 0 => (.array .int)
  | 1 => (.array .int)
  | _ => .int
def F_St : u_T := fun k => match k with
  | 0 => ("HiddenRows$States", "weights", "[[I", true)
  | 1 => ("HiddenRows$States", "moves", "[[I", true)
  | _ => ("HiddenRows$States", "count", "I", false)
def t_St : Nat → FieldType := fun k => match k with
  | 0 => (.array (.array .int))
  | 1 => (.array (.array .int))
  | _ => .int
def F_Ws : u_T := fun k => match k with
  | 0 => ("HiddenRows$WaySums", "row", "LHiddenRows$Row;", true)
  | 1 => ("HiddenRows$WaySums", "states", "LHiddenRows$States;", true)
  | 2 => ("HiddenRows$WaySums", "most", "I", true)
  | 3 => ("HiddenRows$WaySums", "shown", "[[J", true)
  | 4 => ("HiddenRows$WaySums", "from", "[[J", true)
  | 5 => ("HiddenRows$WaySums", "leaving", "[[J", true)
  | 6 => ("HiddenRows$WaySums", "upTo", "[[J", true)
  | 7 => ("HiddenRows$WaySums", "entering", "[[J", true)
  | _ => ("HiddenRows$WaySums", "known", "Z", false)
def t_Ws : Nat → FieldType := fun k => match k with
  | 0 => (.object "HiddenRows$Row")
  | 1 => (.object "HiddenRows$States")
  | 2 => .int
  | 3 => (.array (.array .long))
  | 4 => (.array (.array .long))
  | 5 => (.array (.array .long))
  | 6 => (.array (.array .long))
  | 7 => (.array (.array .long))
  | _ => .boolean
def F_Bw : u_T := fun k => match k with
  | 0 => ("HiddenRows$BestWays", "row", "LHiddenRows$Row;", true)
  | 1 => ("HiddenRows$BestWays", "states", "LHiddenRows$States;", true)
  | 2 => ("HiddenRows$BestWays", "sums", "LHiddenRows$WaySums;", true)
  | 3 => ("HiddenRows$BestWays", "ends", "[LHiddenRows$WayList;", true)
  | 4 => ("HiddenRows$BestWays", "whole", "LHiddenRows$WayList;", true)
  | _ => ("HiddenRows$BestWays", "known", "Z", false)
def t_Bw : Nat → FieldType := fun k => match k with
  | 0 => (.object "HiddenRows$Row")
  | 1 => (.object "HiddenRows$States")
  | 2 => (.object "HiddenRows$WaySums")
  | 3 => (.array (.object "HiddenRows$WayList"))
  | 4 => (.object "HiddenRows$WayList")
  | _ => .boolean
def F_Wl : u_T := fun k => match k with
  | 0 => ("HiddenRows$WayList", "weights", "[J", true)
  | 1 => ("HiddenRows$WayList", "told", "[I", true)
  | _ => ("HiddenRows$WayList", "size", "I", false)
def t_Wl : Nat → FieldType := fun k => match k with
  | 0 => (.array .long)
  | 1 => (.array .int)
  | _ => .int
def F_Dr : u_T := fun k => match k with
  | 0 => ("HiddenRows$Drawing", "row", "LHiddenRows$Row;", true)
  | 1 => ("HiddenRows$Drawing", "states", "LHiddenRows$States;", true)
  | 2 => ("HiddenRows$Drawing", "sums", "LHiddenRows$WaySums;", true)
  | 3 => ("HiddenRows$Drawing", "closed", "J", false)
  | 4 => ("HiddenRows$Drawing", "openState", "I", false)
  | 5 => ("HiddenRows$Drawing", "openBegin", "I", false)
  | 6 => ("HiddenRows$Drawing", "ending", "J", false)
  | 7 => ("HiddenRows$Drawing", "told", "I", false)
  | _ => ("HiddenRows$Drawing", "known", "Z", false)
def t_Dr : Nat → FieldType := fun k => match k with
  | 0 => (.object "HiddenRows$Row")
  | 1 => (.object "HiddenRows$States")
  | 2 => (.object "HiddenRows$WaySums")
  | 3 => .long
  | 4 => .int
  | 5 => .int
  | 6 => .long
  | 7 => .int
  | _ => .boolean
def F_Ki : u_T := fun k => match k with
  | 0 => ("HiddenRows$Kinds", "rules", "[[I", true)
  | 1 => ("HiddenRows$Kinds", "leaves", "[[I", true)
  | _ => ("HiddenRows$Kinds", "count", "I", false)
def t_Ki : Nat → FieldType := fun k => match k with
  | 0 => (.array (.array .int))
  | 1 => (.array (.array .int))
  | _ => .int
def F_Tt : u_T := fun k => match k with
  | 0 => ("HiddenRows$TreeTables", "row", "LHiddenRows$Row;", true)
  | 1 => ("HiddenRows$TreeTables", "kinds", "LHiddenRows$Kinds;", true)
  | 2 => ("HiddenRows$TreeTables", "sum", "[[J", true)
  | 3 => ("HiddenRows$TreeTables", "count", "[[J", true)
  | 4 => ("HiddenRows$TreeTables", "best", "[[J", true)
  | 5 => ("HiddenRows$TreeTables", "having", "[[J", true)
  | 6 => ("HiddenRows$TreeTables", "waitingKinds", "[I", true)
  | 7 => ("HiddenRows$TreeTables", "waitingSpans", "[I", true)
  | 8 => ("HiddenRows$TreeTables", "waiting", "I", false)
  | _ => ("HiddenRows$TreeTables", "known", "Z", false)
def t_Tt : Nat → FieldType := fun k => match k with
  | 0 => (.object "HiddenRows$Row")
  | 1 => (.object "HiddenRows$Kinds")
  | 2 => (.array (.array .long))
  | 3 => (.array (.array .long))
  | 4 => (.array (.array .long))
  | 5 => (.array (.array .long))
  | 6 => (.array .int)
  | 7 => (.array .int)
  | 8 => .int
  | _ => .boolean
def F_Mo : u_T := fun k => match k with
  | 0 => ("HiddenRowsModel", "states", "I", false)
  | 1 => ("HiddenRowsModel", "weights", "[I", true)
  | 2 => ("HiddenRowsModel", "moves", "[I", true)
  | 3 => ("HiddenRowsModel", "kinds", "I", false)
  | 4 => ("HiddenRowsModel", "rules", "[I", true)
  | 5 => ("HiddenRowsModel", "leaves", "[I", true)
  | 6 => ("HiddenRowsModel", "places", "I", false)
  | 7 => ("HiddenRowsModel", "signs", "[I", true)
  | 8 => ("HiddenRowsModel", "held", "[I", true)
  | 9 => ("HiddenRowsModel", "known", "Z", false)
  | 10 => ("HiddenRowsModel", "hasDrawn", "Z", false)
  | 11 => ("HiddenRowsModel", "way", "[I", true)
  | 12 => ("HiddenRowsModel", "total", "J", false)
  | 13 => ("HiddenRowsModel", "ways", "I", false)
  | 14 => ("HiddenRowsModel", "shares", "[J", true)
  | 15 => ("HiddenRowsModel", "begins", "[J", true)
  | 16 => ("HiddenRowsModel", "pairs", "[J", true)
  | 17 => ("HiddenRowsModel", "kept", "I", false)
  | 18 => ("HiddenRowsModel", "keptWeight", "[J", true)
  | 19 => ("HiddenRowsModel", "keptWay", "[I", true)
  | 20 => ("HiddenRowsModel", "drawn", "[I", true)
  | 21 => ("HiddenRowsModel", "sums", "[J", true)
  | 22 => ("HiddenRowsModel", "counts", "[J", true)
  | 23 => ("HiddenRowsModel", "bests", "[J", true)
  | 24 => ("HiddenRowsModel", "tellA", "[I", true)
  | 25 => ("HiddenRowsModel", "tellB", "[I", true)
  | _ => ("HiddenRowsModel", "tellK", "[I", true)
def t_Mo : Nat → FieldType := fun k => match k with
  | 0 => .int
  | 1 => (.array .int)
  | 2 => (.array .int)
  | 3 => .int
  | 4 => (.array .int)
  | 5 => (.array .int)
  | 6 => .int
  | 7 => (.array .int)
  | 8 => (.array .int)
  | 9 => .boolean
  | 10 => .boolean
  | 11 => (.array .int)
  | 12 => .long
  | 13 => .int
  | 14 => (.array .long)
  | 15 => (.array .long)
  | 16 => (.array .long)
  | 17 => .int
  | 18 => (.array .long)
  | 19 => (.array .int)
  | 20 => (.array .int)
  | 21 => (.array .long)
  | 22 => (.array .long)
  | 23 => (.array .long)
  | 24 => (.array .int)
  | 25 => (.array .int)
  | _ => (.array .int)
abbrev classes : List vw_C := [("HiddenRows", F_H, 8), ("HiddenRows$Row", F_Ro, 3), ("HiddenRows$States", F_St, 3), ("HiddenRows$WaySums", F_Ws, 9), ("HiddenRows$BestWays", F_Bw, 6), ("HiddenRows$WayList", F_Wl, 3), ("HiddenRows$Drawing", F_Dr, 9), ("HiddenRows$Kinds", F_Ki, 3), ("HiddenRows$TreeTables", F_Tt, 10), ("HiddenRowsModel", F_Mo, 27)]
/-- the component types of the arrays -/
abbrev ab_tys : List FieldType := [.int, .long, .array .int, .array .long, .object "HiddenRows$WayList"]
abbrev ab_nf : List (String × Nat × String × String × String × String) := []
abbrev ab_nm : List (String × Nat × MethodName × String) := [("HiddenRows", 11, ⟨"HiddenRows$Row", "<init>", "()V"⟩, "HiddenRows"), ("HiddenRows", 18, ⟨"HiddenRows$States", "<init>", "()V"⟩, "HiddenRows"), ("HiddenRows$BestWays", 17, ⟨"HiddenRows$WayList", "<init>", "()V"⟩, "HiddenRows"), ("HiddenRows", 56, ⟨"HiddenRows$Kinds", "<init>", "()V"⟩, "HiddenRows")]
abbrev ab_ao : List String := ["HiddenRows$WayList"]
abbrev ab_aa : List FieldType := [.int, .long]
def ab_tbl : List Cond := lw_tbl.filter goodWord
theorem ab_mem {w : Cond} (h : w ∈ lw_tbl) (hg : goodWord w = true) : w ∈ ab_tbl := List.mem_filter.mpr ⟨h, hg⟩
theorem ab_good : GoodIn ab_tbl ab_tbl := fun w hw => ⟨hw, good_of_word (List.mem_filter.mp hw).2⟩
abbrev b_H_init : ByteArray := prog_1_method_1_code
abbrev y_H_init : MethodName := ⟨"HiddenRows", "<init>", "()V"⟩
abbrev b_Ro_init : ByteArray := prog_5_method_1_code
abbrev y_Ro_init : MethodName := ⟨"HiddenRows$Row", "<init>", "()V"⟩
abbrev b_St_init : ByteArray := prog_6_method_1_code
abbrev y_St_init : MethodName := ⟨"HiddenRows$States", "<init>", "()V"⟩
abbrev b_Ws_init : ByteArray := prog_9_method_1_code
abbrev y_Ws_init : MethodName := ⟨"HiddenRows$WaySums", "<init>", "(LHiddenRows$Row;LHiddenRows$States;I)V"⟩
abbrev b_Bw_init : ByteArray := prog_2_method_1_code
abbrev y_Bw_init : MethodName := ⟨"HiddenRows$BestWays", "<init>", "(LHiddenRows$Row;LHiddenRows$States;LHiddenRows$WaySums;)V"⟩
abbrev b_Wl_init : ByteArray := prog_8_method_1_code
abbrev y_Wl_init : MethodName := ⟨"HiddenRows$WayList", "<init>", "()V"⟩
abbrev b_Dr_init : ByteArray := prog_3_method_1_code
abbrev y_Dr_init : MethodName := ⟨"HiddenRows$Drawing", "<init>", "(LHiddenRows$Row;LHiddenRows$States;LHiddenRows$WaySums;)V"⟩
abbrev b_Ki_init : ByteArray := prog_4_method_1_code
abbrev y_Ki_init : MethodName := ⟨"HiddenRows$Kinds", "<init>", "()V"⟩
abbrev b_Tt_init : ByteArray := prog_7_method_1_code
abbrev y_Tt_init : MethodName := ⟨"HiddenRows$TreeTables", "<init>", "(LHiddenRows$Row;LHiddenRows$Kinds;)V"⟩
abbrev b_H_state : ByteArray := prog_1_method_2_code
abbrev y_H_state : MethodName := ⟨"HiddenRows", "state", "()I"⟩
abbrev b_H_forgetWays : ByteArray := prog_1_method_26_code
abbrev y_H_forgetWays : MethodName := ⟨"HiddenRows", "forgetWays", "()V"⟩
abbrev b_St_addOne : ByteArray := prog_6_method_3_code
abbrev y_St_addOne : MethodName := ⟨"HiddenRows$States", "addOne", "()I"⟩
abbrev b_H_weight : ByteArray := prog_1_method_3_code
abbrev y_H_weight : MethodName := ⟨"HiddenRows", "weight", "(III)I"⟩
abbrev b_St_has : ByteArray := prog_6_method_2_code
abbrev y_St_has : MethodName := ⟨"HiddenRows$States", "has", "(I)Z"⟩
abbrev b_H_isWeight : ByteArray := prog_1_method_28_code
abbrev y_H_isWeight : MethodName := ⟨"HiddenRows", "isWeight", "(I)Z"⟩
abbrev b_H_move : ByteArray := prog_1_method_4_code
abbrev y_H_move : MethodName := ⟨"HiddenRows", "move", "(III)I"⟩
abbrev b_H_kind : ByteArray := prog_1_method_5_code
abbrev y_H_kind : MethodName := ⟨"HiddenRows", "kind", "()I"⟩
abbrev b_H_forgetTrees : ByteArray := prog_1_method_27_code
abbrev y_H_forgetTrees : MethodName := ⟨"HiddenRows", "forgetTrees", "()V"⟩
abbrev b_H_rule : ByteArray := prog_1_method_6_code
abbrev y_H_rule : MethodName := ⟨"HiddenRows", "rule", "(IIII)I"⟩
abbrev b_Ki_has : ByteArray := prog_4_method_2_code
abbrev y_Ki_has : MethodName := ⟨"HiddenRows$Kinds", "has", "(I)Z"⟩
abbrev b_Ki_parts : ByteArray := prog_4_method_3_code
abbrev y_Ki_parts : MethodName := ⟨"HiddenRows$Kinds", "parts", "(II)I"⟩
abbrev b_H_leaf : ByteArray := prog_1_method_7_code
abbrev y_H_leaf : MethodName := ⟨"HiddenRows", "leaf", "(III)I"⟩
abbrev b_H_sign : ByteArray := prog_1_method_8_code
abbrev y_H_sign : MethodName := ⟨"HiddenRows", "sign", "(I)I"⟩
abbrev b_Ro_append : ByteArray := prog_5_method_3_code
abbrev y_Ro_append : MethodName := ⟨"HiddenRows$Row", "append", "(I)V"⟩
abbrev b_H_clear : ByteArray := prog_1_method_9_code
abbrev y_H_clear : MethodName := ⟨"HiddenRows", "clear", "()I"⟩
abbrev b_H_hold : ByteArray := prog_1_method_10_code
abbrev y_H_hold : MethodName := ⟨"HiddenRows", "hold", "(II)I"⟩
abbrev b_Ro_has : ByteArray := prog_5_method_2_code
abbrev y_Ro_has : MethodName := ⟨"HiddenRows$Row", "has", "(I)Z"⟩
abbrev b_H_total : ByteArray := prog_1_method_11_code
abbrev y_H_total : MethodName := ⟨"HiddenRows", "total", "()J"⟩
abbrev b_Ws_whole : ByteArray := prog_9_method_2_code
abbrev y_Ws_whole : MethodName := ⟨"HiddenRows$WaySums", "whole", "()J"⟩
abbrev b_Ws_refresh : ByteArray := prog_9_method_8_code
abbrev y_Ws_refresh : MethodName := ⟨"HiddenRows$WaySums", "refresh", "()V"⟩
abbrev b_Ws_showPlaces : ByteArray := prog_9_method_9_code
abbrev y_Ws_showPlaces : MethodName := ⟨"HiddenRows$WaySums", "showPlaces", "()V"⟩
abbrev b_Ws_showOf : ByteArray := prog_9_method_10_code
abbrev y_Ws_showOf : MethodName := ⟨"HiddenRows$WaySums", "showOf", "(II)J"⟩
abbrev b_Ws_cut : ByteArray := prog_9_method_16_code
abbrev y_Ws_cut : MethodName := ⟨"HiddenRows$WaySums", "cut", "(I)J"⟩
abbrev b_Ws_sumFromBehind : ByteArray := prog_9_method_11_code
abbrev y_Ws_sumFromBehind : MethodName := ⟨"HiddenRows$WaySums", "sumFromBehind", "()V"⟩
abbrev b_Ws_longerThan : ByteArray := prog_9_method_6_code
abbrev y_Ws_longerThan : MethodName := ⟨"HiddenRows$WaySums", "longerThan", "(III)J"⟩
abbrev b_Ws_segment : ByteArray := prog_9_method_7_code
abbrev y_Ws_segment : MethodName := ⟨"HiddenRows$WaySums", "segment", "(III)J"⟩
abbrev b_Ws_movedOutOf : ByteArray := prog_9_method_12_code
abbrev y_Ws_movedOutOf : MethodName := ⟨"HiddenRows$WaySums", "movedOutOf", "(II)J"⟩
abbrev b_Ws_sumFromAhead : ByteArray := prog_9_method_13_code
abbrev y_Ws_sumFromAhead : MethodName := ⟨"HiddenRows$WaySums", "sumFromAhead", "()V"⟩
abbrev b_Ws_movedInto : ByteArray := prog_9_method_14_code
abbrev y_Ws_movedInto : MethodName := ⟨"HiddenRows$WaySums", "movedInto", "(II)J"⟩
abbrev b_Ws_endedBefore : ByteArray := prog_9_method_15_code
abbrev y_Ws_endedBefore : MethodName := ⟨"HiddenRows$WaySums", "endedBefore", "(II)J"⟩
abbrev b_H_ways : ByteArray := prog_1_method_12_code
abbrev y_H_ways : MethodName := ⟨"HiddenRows", "ways", "()I"⟩
abbrev b_H_share : ByteArray := prog_1_method_13_code
abbrev y_H_share : MethodName := ⟨"HiddenRows", "share", "(III)J"⟩
abbrev b_H_isPart : ByteArray := prog_1_method_29_code
abbrev y_H_isPart : MethodName := ⟨"HiddenRows", "isPart", "(I)Z"⟩
abbrev b_Ws_over : ByteArray := prog_9_method_3_code
abbrev y_Ws_over : MethodName := ⟨"HiddenRows$WaySums", "over", "(II)J"⟩
abbrev b_H_lowestTerms : ByteArray := prog_1_method_30_code
abbrev y_H_lowestTerms : MethodName := ⟨"HiddenRows", "lowestTerms", "(JJI)J"⟩
abbrev b_H_commonDivisor : ByteArray := prog_1_method_31_code
abbrev y_H_commonDivisor : MethodName := ⟨"HiddenRows", "commonDivisor", "(JJ)J"⟩
abbrev b_H_begin : ByteArray := prog_1_method_14_code
abbrev y_H_begin : MethodName := ⟨"HiddenRows", "begin", "(III)J"⟩
abbrev b_Ws_beginning : ByteArray := prog_9_method_4_code
abbrev y_Ws_beginning : MethodName := ⟨"HiddenRows$WaySums", "beginning", "(II)J"⟩
abbrev b_H_pair : ByteArray := prog_1_method_15_code
abbrev y_H_pair : MethodName := ⟨"HiddenRows", "pair", "(IIII)J"⟩
abbrev b_Ws_moving : ByteArray := prog_9_method_5_code
abbrev y_Ws_moving : MethodName := ⟨"HiddenRows$WaySums", "moving", "(III)J"⟩
abbrev b_H_top : ByteArray := prog_1_method_16_code
abbrev y_H_top : MethodName := ⟨"HiddenRows", "top", "(I)I"⟩
abbrev b_H_best : ByteArray := prog_1_method_17_code
abbrev y_H_best : MethodName := ⟨"HiddenRows", "best", "(I)J"⟩
abbrev b_Bw_list : ByteArray := prog_2_method_2_code
abbrev y_Bw_list : MethodName := ⟨"HiddenRows$BestWays", "list", "()LHiddenRows$WayList;"⟩
abbrev b_Bw_listEnds : ByteArray := prog_2_method_4_code
abbrev y_Bw_listEnds : MethodName := ⟨"HiddenRows$BestWays", "listEnds", "(II)V"⟩
abbrev b_Bw_endsFrom : ByteArray := prog_2_method_7_code
abbrev y_Bw_endsFrom : MethodName := ⟨"HiddenRows$BestWays", "endsFrom", "(II)LHiddenRows$WayList;"⟩
abbrev b_Wl_offer : ByteArray := prog_8_method_2_code
abbrev y_Wl_offer : MethodName := ⟨"HiddenRows$WayList", "offer", "(JI)Z"⟩
abbrev b_Wl_isBetter : ByteArray := prog_8_method_3_code
abbrev y_Wl_isBetter : MethodName := ⟨"HiddenRows$WayList", "isBetter", "(JII)Z"⟩
abbrev b_Bw_offerMoves : ByteArray := prog_2_method_5_code
abbrev y_Bw_offerMoves : MethodName := ⟨"HiddenRows$BestWays", "offerMoves", "(LHiddenRows$WayList;JIII)V"⟩
abbrev b_Bw_offerAll : ByteArray := prog_2_method_6_code
abbrev y_Bw_offerAll : MethodName := ⟨"HiddenRows$BestWays", "offerAll", "(LHiddenRows$WayList;JILHiddenRows$WayList;)V"⟩
abbrev b_Bw_listWhole : ByteArray := prog_2_method_3_code
abbrev y_Bw_listWhole : MethodName := ⟨"HiddenRows$BestWays", "listWhole", "()V"⟩
abbrev b_H_bestAt : ByteArray := prog_1_method_18_code
abbrev y_H_bestAt : MethodName := ⟨"HiddenRows", "bestAt", "(II)I"⟩
abbrev b_Ro_toldAt : ByteArray := prog_5_method_4_code
abbrev y_Ro_toldAt : MethodName := ⟨"HiddenRows$Row", "toldAt", "(II)I"⟩
abbrev b_H_drawn : ByteArray := prog_1_method_19_code
abbrev y_H_drawn : MethodName := ⟨"HiddenRows", "drawn", "(I)J"⟩
abbrev b_Dr_spread : ByteArray := prog_3_method_2_code
abbrev y_Dr_spread : MethodName := ⟨"HiddenRows$Drawing", "spread", "(I)J"⟩
abbrev b_Dr_draw : ByteArray := prog_3_method_3_code
abbrev y_Dr_draw : MethodName := ⟨"HiddenRows$Drawing", "draw", "(J)J"⟩
abbrev b_Dr_openSegment : ByteArray := prog_3_method_8_code
abbrev y_Dr_openSegment : MethodName := ⟨"HiddenRows$Drawing", "openSegment", "(I)J"⟩
abbrev b_Dr_tellPlace : ByteArray := prog_3_method_4_code
abbrev y_Dr_tellPlace : MethodName := ⟨"HiddenRows$Drawing", "tellPlace", "(IJ)J"⟩
abbrev b_Dr_sumTelling : ByteArray := prog_3_method_5_code
abbrev y_Dr_sumTelling : MethodName := ⟨"HiddenRows$Drawing", "sumTelling", "(II)J"⟩
abbrev b_Dr_closing : ByteArray := prog_3_method_7_code
abbrev y_Dr_closing : MethodName := ⟨"HiddenRows$Drawing", "closing", "(II)J"⟩
abbrev b_Dr_take : ByteArray := prog_3_method_6_code
abbrev y_Dr_take : MethodName := ⟨"HiddenRows$Drawing", "take", "(II)V"⟩
abbrev b_H_drawnAt : ByteArray := prog_1_method_20_code
abbrev y_H_drawnAt : MethodName := ⟨"HiddenRows", "drawnAt", "(I)I"⟩
abbrev b_H_trees : ByteArray := prog_1_method_21_code
abbrev y_H_trees : MethodName := ⟨"HiddenRows", "trees", "(I)J"⟩
abbrev b_Tt_sumOfAll : ByteArray := prog_7_method_2_code
abbrev y_Tt_sumOfAll : MethodName := ⟨"HiddenRows$TreeTables", "sumOfAll", "(I)J"⟩
abbrev b_Tt_refresh : ByteArray := prog_7_method_6_code
abbrev y_Tt_refresh : MethodName := ⟨"HiddenRows$TreeTables", "refresh", "()V"⟩
abbrev b_Tt_fill : ByteArray := prog_7_method_7_code
abbrev y_Tt_fill : MethodName := ⟨"HiddenRows$TreeTables", "fill", "(III)V"⟩
abbrev b_Tt_spanOf : ByteArray := prog_7_method_5_code
abbrev y_Tt_spanOf : MethodName := ⟨"HiddenRows$TreeTables", "spanOf", "(II)I"⟩
abbrev b_Ki_leafOf : ByteArray := prog_4_method_4_code
abbrev y_Ki_leafOf : MethodName := ⟨"HiddenRows$Kinds", "leafOf", "(II)I"⟩
abbrev b_Tt_addSplit : ByteArray := prog_7_method_8_code
abbrev y_Tt_addSplit : MethodName := ⟨"HiddenRows$TreeTables", "addSplit", "(IIII)V"⟩
abbrev b_H_treeCount : ByteArray := prog_1_method_22_code
abbrev y_H_treeCount : MethodName := ⟨"HiddenRows", "treeCount", "(I)J"⟩
abbrev b_Tt_countOfAll : ByteArray := prog_7_method_3_code
abbrev y_Tt_countOfAll : MethodName := ⟨"HiddenRows$TreeTables", "countOfAll", "(I)J"⟩
abbrev b_H_treeBest : ByteArray := prog_1_method_23_code
abbrev y_H_treeBest : MethodName := ⟨"HiddenRows", "treeBest", "(I)J"⟩
abbrev b_Tt_bestOfAll : ByteArray := prog_7_method_4_code
abbrev y_Tt_bestOfAll : MethodName := ⟨"HiddenRows$TreeTables", "bestOfAll", "(I)J"⟩
abbrev b_H_treeAt : ByteArray := prog_1_method_24_code
abbrev y_H_treeAt : MethodName := ⟨"HiddenRows", "treeAt", "(II)I"⟩
abbrev b_Tt_bestTells : ByteArray := prog_7_method_9_code
abbrev y_Tt_bestTells : MethodName := ⟨"HiddenRows$TreeTables", "bestTells", "(II)I"⟩
abbrev b_Tt_push : ByteArray := prog_7_method_10_code
abbrev y_Tt_push : MethodName := ⟨"HiddenRows$TreeTables", "push", "(II)V"⟩
abbrev b_Tt_tellNode : ByteArray := prog_7_method_11_code
abbrev y_Tt_tellNode : MethodName := ⟨"HiddenRows$TreeTables", "tellNode", "(II)I"⟩
abbrev b_Tt_bestParts : ByteArray := prog_7_method_12_code
abbrev y_Tt_bestParts : MethodName := ⟨"HiddenRows$TreeTables", "bestParts", "(IIII)I"⟩
abbrev b_H_span : ByteArray := prog_1_method_25_code
abbrev y_H_span : MethodName := ⟨"HiddenRows", "span", "(IIIII)J"⟩
abbrev b_Tt_sumWith : ByteArray := prog_7_method_13_code
abbrev y_Tt_sumWith : MethodName := ⟨"HiddenRows$TreeTables", "sumWith", "(IIII)J"⟩
abbrev b_Tt_addAround : ByteArray := prog_7_method_14_code
abbrev y_Tt_addAround : MethodName := ⟨"HiddenRows$TreeTables", "addAround", "(IIII)V"⟩
abbrev b_Tt_addProducts : ByteArray := prog_7_method_15_code
abbrev y_Tt_addProducts : MethodName := ⟨"HiddenRows$TreeTables", "addProducts", "(I[[JI[[JI)V"⟩
abbrev b_Mo_init : ByteArray := prog_11_method_1_code
abbrev y_Mo_init : MethodName := ⟨"HiddenRowsModel", "<init>", "()V"⟩
abbrev b_Mo_state : ByteArray := prog_11_method_7_code
abbrev y_Mo_state : MethodName := ⟨"HiddenRowsModel", "state", "()I"⟩
abbrev b_Mo_change : ByteArray := prog_11_method_2_code
abbrev y_Mo_change : MethodName := ⟨"HiddenRowsModel", "change", "()V"⟩
abbrev b_Mo_weight : ByteArray := prog_11_method_8_code
abbrev y_Mo_weight : MethodName := ⟨"HiddenRowsModel", "weight", "(III)I"⟩
abbrev b_Mo_isState : ByteArray := prog_11_method_3_code
abbrev y_Mo_isState : MethodName := ⟨"HiddenRowsModel", "isState", "(I)Z"⟩
abbrev b_Mo_isWeight : ByteArray := prog_11_method_6_code
abbrev y_Mo_isWeight : MethodName := ⟨"HiddenRowsModel", "isWeight", "(I)Z"⟩
abbrev b_Mo_move : ByteArray := prog_11_method_9_code
abbrev y_Mo_move : MethodName := ⟨"HiddenRowsModel", "move", "(III)I"⟩
abbrev b_Mo_kind : ByteArray := prog_11_method_10_code
abbrev y_Mo_kind : MethodName := ⟨"HiddenRowsModel", "kind", "()I"⟩
abbrev b_Mo_rule : ByteArray := prog_11_method_11_code
abbrev y_Mo_rule : MethodName := ⟨"HiddenRowsModel", "rule", "(IIII)I"⟩
abbrev b_Mo_isKind : ByteArray := prog_11_method_4_code
abbrev y_Mo_isKind : MethodName := ⟨"HiddenRowsModel", "isKind", "(I)Z"⟩
abbrev b_Mo_leaf : ByteArray := prog_11_method_12_code
abbrev y_Mo_leaf : MethodName := ⟨"HiddenRowsModel", "leaf", "(III)I"⟩
abbrev b_Mo_sign : ByteArray := prog_11_method_13_code
abbrev y_Mo_sign : MethodName := ⟨"HiddenRowsModel", "sign", "(I)I"⟩
abbrev b_Mo_clear : ByteArray := prog_11_method_14_code
abbrev y_Mo_clear : MethodName := ⟨"HiddenRowsModel", "clear", "()I"⟩
abbrev b_Mo_hold : ByteArray := prog_11_method_15_code
abbrev y_Mo_hold : MethodName := ⟨"HiddenRowsModel", "hold", "(II)I"⟩
abbrev b_Mo_isPlace : ByteArray := prog_11_method_5_code
abbrev y_Mo_isPlace : MethodName := ⟨"HiddenRowsModel", "isPlace", "(I)Z"⟩
abbrev b_Mo_total : ByteArray := prog_11_method_24_code
abbrev y_Mo_total : MethodName := ⟨"HiddenRowsModel", "total", "()J"⟩
abbrev b_Mo_know : ByteArray := prog_11_method_22_code
abbrev y_Mo_know : MethodName := ⟨"HiddenRowsModel", "know", "()V"⟩
abbrev b_Mo_next : ByteArray := prog_11_method_20_code
abbrev y_Mo_next : MethodName := ⟨"HiddenRowsModel", "next", "(Z)Z"⟩
abbrev b_Mo_canBe : ByteArray := prog_11_method_18_code
abbrev y_Mo_canBe : MethodName := ⟨"HiddenRowsModel", "canBe", "(II)Z"⟩
abbrev b_Mo_stay : ByteArray := prog_11_method_17_code
abbrev y_Mo_stay : MethodName := ⟨"HiddenRowsModel", "stay", "(I)I"⟩
abbrev b_Mo_weightOf : ByteArray := prog_11_method_19_code
abbrev y_Mo_weightOf : MethodName := ⟨"HiddenRowsModel", "weightOf", "()J"⟩
abbrev b_Mo_show : ByteArray := prog_11_method_16_code
abbrev y_Mo_show : MethodName := ⟨"HiddenRowsModel", "show", "(II)I"⟩
abbrev b_Mo_add : ByteArray := prog_11_method_23_code
abbrev y_Mo_add : MethodName := ⟨"HiddenRowsModel", "add", "(J)V"⟩
abbrev b_Mo_keep : ByteArray := prog_11_method_21_code
abbrev y_Mo_keep : MethodName := ⟨"HiddenRowsModel", "keep", "(J)V"⟩
abbrev b_Mo_ways : ByteArray := prog_11_method_25_code
abbrev y_Mo_ways : MethodName := ⟨"HiddenRowsModel", "ways", "()I"⟩
abbrev b_Mo_share : ByteArray := prog_11_method_28_code
abbrev y_Mo_share : MethodName := ⟨"HiddenRowsModel", "share", "(III)J"⟩
abbrev b_Mo_lowest : ByteArray := prog_11_method_27_code
abbrev y_Mo_lowest : MethodName := ⟨"HiddenRowsModel", "lowest", "(JJI)J"⟩
abbrev b_Mo_common : ByteArray := prog_11_method_26_code
abbrev y_Mo_common : MethodName := ⟨"HiddenRowsModel", "common", "(JJ)J"⟩
abbrev b_Mo_begin : ByteArray := prog_11_method_29_code
abbrev y_Mo_begin : MethodName := ⟨"HiddenRowsModel", "begin", "(III)J"⟩
abbrev b_Mo_pair : ByteArray := prog_11_method_30_code
abbrev y_Mo_pair : MethodName := ⟨"HiddenRowsModel", "pair", "(IIII)J"⟩
abbrev b_Mo_top : ByteArray := prog_11_method_31_code
abbrev y_Mo_top : MethodName := ⟨"HiddenRowsModel", "top", "(I)I"⟩
abbrev b_Mo_best : ByteArray := prog_11_method_32_code
abbrev y_Mo_best : MethodName := ⟨"HiddenRowsModel", "best", "(I)J"⟩
abbrev b_Mo_bestAt : ByteArray := prog_11_method_33_code
abbrev y_Mo_bestAt : MethodName := ⟨"HiddenRowsModel", "bestAt", "(II)I"⟩
abbrev b_Mo_drawn : ByteArray := prog_11_method_34_code
abbrev y_Mo_drawn : MethodName := ⟨"HiddenRowsModel", "drawn", "(I)J"⟩
abbrev b_Mo_drawnAt : ByteArray := prog_11_method_35_code
abbrev y_Mo_drawnAt : MethodName := ⟨"HiddenRowsModel", "drawnAt", "(I)I"⟩
abbrev b_Mo_trees : ByteArray := prog_11_method_41_code
abbrev y_Mo_trees : MethodName := ⟨"HiddenRowsModel", "trees", "(I)J"⟩
abbrev b_Mo_findTrees : ByteArray := prog_11_method_38_code
abbrev y_Mo_findTrees : MethodName := ⟨"HiddenRowsModel", "findTrees", "(III)V"⟩
abbrev b_Mo_findSpan : ByteArray := prog_11_method_39_code
abbrev y_Mo_findSpan : MethodName := ⟨"HiddenRowsModel", "findSpan", "(III)V"⟩
abbrev b_Mo_at : ByteArray := prog_11_method_36_code
abbrev y_Mo_at : MethodName := ⟨"HiddenRowsModel", "at", "(III)I"⟩
abbrev b_Mo_leafOf : ByteArray := prog_11_method_37_code
abbrev y_Mo_leafOf : MethodName := ⟨"HiddenRowsModel", "leafOf", "(II)J"⟩
abbrev b_Mo_whole : ByteArray := prog_11_method_40_code
abbrev y_Mo_whole : MethodName := ⟨"HiddenRowsModel", "whole", "(I)I"⟩
abbrev b_Mo_treeCount : ByteArray := prog_11_method_42_code
abbrev y_Mo_treeCount : MethodName := ⟨"HiddenRowsModel", "treeCount", "(I)J"⟩
abbrev b_Mo_treeBest : ByteArray := prog_11_method_43_code
abbrev y_Mo_treeBest : MethodName := ⟨"HiddenRowsModel", "treeBest", "(I)J"⟩
abbrev b_Mo_treeAt : ByteArray := prog_11_method_45_code
abbrev y_Mo_treeAt : MethodName := ⟨"HiddenRowsModel", "treeAt", "(II)I"⟩
abbrev b_Mo_leastOf : ByteArray := prog_11_method_44_code
abbrev y_Mo_leastOf : MethodName := ⟨"HiddenRowsModel", "leastOf", "(III)I"⟩
abbrev b_Mo_span : ByteArray := prog_11_method_46_code
abbrev y_Mo_span : MethodName := ⟨"HiddenRowsModel", "span", "(IIIII)J"⟩
end
section
/-! THE ABSTRACT LAYER: a heap is a list of cells made since the law began; the k-th is known as k + 1, the script as 0. ab_R: the machine stands at pc with these locals, this stack, this heap, and comes to its end. One rule an instruction (a_..), one a call (a_call..), ab_con: a contract out of a walk. -/
/-- arrays of arrays of t: the tables have their class -/
def ab_AOA (t : FieldType) (U : State) : Prop := (Cond.arrayOver (.array t)).before #[] U = true
theorem ab_AOA.moved {t : FieldType} {u U : State} (hvm : u.vm.Alike U.vm) (h : ab_AOA t u) : ab_AOA t U := by
  obtain ⟨comp, c, k, h1, h2, h3, h4, h5⟩ := arrayOverA_spec h
  obtain ⟨k', hk', he⟩ := hvm.2.2 _ _ h3
  have hi : (U.vm.classes.findIdx? fun (x : Class) => match x.kind with | .array component _ => component == comp | _ => false) = some c := by
    rw [hvm.findIdx?_eq _ (fun _ => rfl)]
    exact h2
  have hkind : k'.kind = .array comp (.array t) := by rw [he]; exact h4
  have f1 : U.vm.findClass (FieldType.array t).toString = some comp := by rw [hvm.findClass]; exact h1
  have f2 : U.vm.findClass ("[" ++ (FieldType.array t).toString) = some c := by rw [hvm.findClass]; exact h5
  unfold ab_AOA Cond.before Cond.holds
  simp only [Cond.value]
  rw [f1, Option.bind_some]
  refine (congrArg (fun o : Option Nat => (o.bind (fun c => (U.vm.classes[c]?).map fun (k : Class) => match k.kind with | .array _ ty => decide (ty = FieldType.array t) && decide (U.vm.findClass ("[" ++ (FieldType.array t).toString) = some c) | _ => false) == some true)) hi).trans ?_
  simp [hk', hkind, f2]
/-- a cell: an array (number of its type in ab_tys, contents), or an object (number of its class in classes, its fields) -/
abbrev ab_C : Type := (Nat × vp_A) ⊕ (Nat × List Value)
/-- what is fixed from the law's start on: class numbers and slots; array classes; the script's address; the heap's size at the start; that heap; the script's length; the script -/
abbrev ab_E : Type := va_G × (Nat → ClassId) × Nat × Nat × Heap × Nat × (Nat → Int32)
abbrev ab_n (E : ab_E) : Nat := E.2.2.2.1
def ab_ad (E : ab_E) : Nat → Nat
  | 0 => E.2.2.1
  | k + 1 => ab_n E + k
def ab_v (E : ab_E) : Value → Value
  | .ref k => .ref (ab_ad E k)
  | .int x => .int x
  | .long x => .long x
  | .null => .null
  | .float x => .float x
  | .double x => .double x
  | .retAddr x => .retAddr x
def ab_a (E : ab_E) (x : vp_A) : vp_A := (x.1, match x.2 with
  | .inl f => .inl f
  | .inr (.inl f) => .inr (.inl f)
  | .inr (.inr (.inl f)) => .inr (.inr (.inl f))
  | .inr (.inr (.inr (.inl f))) => .inr (.inr (.inr (.inl f)))
  | .inr (.inr (.inr (.inr f))) => .inr (.inr (.inr (.inr (fun i => (f i).map (ab_ad E))))))
def ab_c (E : ab_E) : ab_C → va_E
  | .inl q => .inl (E.2.1 q.1, ab_a E q.2)
  | .inr q => .inr (q.1, q.2.map (ab_v E))
/-- the heap that stands for h -/
def ab_H (E : ab_E) (h : List ab_C) (H : Heap) : Prop :=
  H.size = ab_n E + h.length ∧ (∀ (k : Nat) (x : ab_C), h[k]? = some x → va_at E.1 classes (ab_n E + k, ab_c E x) H) ∧ ∀ q : Nat, q < ab_n E → H[q]? = E.2.2.2.2.1[q]?
/-- the tables -/
def ab_K (E : ab_E) (U : State) : Prop :=
  (∀ (c : Nat) (q : vw_C), classes[c]? = some q → u_Kn U q.1 q.2.1 q.2.2 (E.1.1 c) (E.1.2 c)) ∧ (∀ (t : Nat) (ty : FieldType), ab_tys[t]? = some ty → ArrOfT U (E.2.1 t) ty ∧ va_RA U (E.2.1 t) ty) ∧
  (∀ w : String × Nat × String × String × String × String, w ∈ ab_nf → va_Nw (.fieldLinkNest w.1 w.2.1 w.2.2.1 w.2.2.2.1 w.2.2.2.2.1 w.2.2.2.2.2) U) ∧ (∀ w : String × Nat × MethodName × String, w ∈ ab_nm → va_Nw (.methodLinkNest w.1 w.2.1 w.2.2.1 w.2.2.2) U) ∧
  (∀ C : String, C ∈ ab_ao → va_AO C U) ∧ (∀ t : FieldType, t ∈ ab_aa → ab_AOA t U) ∧
  va_X E.2.2.1 E.2.2.2.2.2.1 E.2.2.2.2.2.2 U E.2.2.2.2.1 ∧ E.2.2.1 < ab_n E
theorem ab_K.moved {E : ab_E} {s U : State} (hW : s.WarmedH U.vm) (h : ab_K E s) : ab_K E U := by
  obtain ⟨h1, h2, h3, h4, h5, h6, h7, h8⟩ := h
  have hvm := hW.alike
  exact ⟨fun c q hq => u_Kn_moved hvm (h1 c q hq), fun t ty ht => ⟨arrOfT_moved hvm (h2 t ty ht).1, (h2 t ty ht).2.moved hvm⟩, fun w hw => va_Nw.warmF hW (h3 w hw), fun w hw => va_Nw.warmM hW (h4 w hw), fun C hC => (h5 C hC).moved hvm, fun t ht => (h6 t ht).moved hvm, h7.moved hvm, h8⟩
theorem ab_K.same {E : ab_E} {s U : State} (hv : s.vm = U.vm) (h : ab_K E s) : ab_K E U := by
  obtain ⟨h1, h2, h3, h4, h5, h6, h7, h8⟩ := h
  have hvm : s.vm.Alike U.vm := hv ▸ Vm.Alike.refl s.vm
  exact ⟨fun c q hq => u_Kn_moved hvm (h1 c q hq), fun t ty ht => ⟨arrOfT_moved hvm (h2 t ty ht).1, (h2 t ty ht).2.moved hvm⟩, fun w hw => va_Nw.same rfl hv (h3 w hw), fun w hw => va_Nw.same rfl hv (h4 w hw), fun C hC => (h5 C hC).moved hvm, fun t ht => (h6 t ht).moved hvm, h7.moved hvm, h8⟩
theorem ab_K.va {E : ab_E} {s : State} (h : ab_K E s) : va_K E.1 classes [] s := ⟨h.1, fun k q h => by simp at h⟩
theorem ab_cat (E : ab_E) (v : Value) : (ab_v E v).category = v.category := by cases v <;> rfl
/-- locals: what a store leaves -/
def ab_s1 (lv : List (Nat × Value)) (i : Nat) (v : Value) : List (Nat × Value) := (i, v) :: lv.filter (fun q => !(q.1 == i) && !(q.1 + 1 == i && q.2.category == 2))
def ab_s2 (lv : List (Nat × Value)) (i : Nat) (v : Value) : List (Nat × Value) := (i, v) :: lv.filter (fun q => !(q.1 == i) && (!(q.1 == i + 1) && !(q.1 + 1 == i && q.2.category == 2)))
abbrev ab_l (E : ab_E) (lv : List (Nat × Value)) : List (Nat × Value) := lv.map (fun q => (q.1, ab_v E q.2))
theorem ab_s1_map (E : ab_E) (lv : List (Nat × Value)) (i : Nat) (v : Value) : (i, ab_v E v) :: (ab_l E lv).filter (fun q => !(q.1 == i) && !(q.1 + 1 == i && q.2.category == 2)) = ab_l E (ab_s1 lv i v) := by
  show _ = (i, ab_v E v) :: ab_l E _
  congr 1
  rw [ab_l, List.filter_map]
  congr 1
  apply List.filter_congr
  intro q _
  simp [ab_cat]
theorem ab_s2_map (E : ab_E) (lv : List (Nat × Value)) (i : Nat) (v : Value) : (i, ab_v E v) :: (ab_l E lv).filter (fun q => !(q.1 == i) && (!(q.1 == i + 1) && !(q.1 + 1 == i && q.2.category == 2))) = ab_l E (ab_s2 lv i v) := by
  show _ = (i, ab_v E v) :: ab_l E _
  congr 1
  rw [ab_l, List.filter_map]
  congr 1
  apply List.filter_congr
  intro q _
  simp [ab_cat]
theorem ab_lu {lv : List (Nat × Value)} {i : Nat} {v : Value} (h : lv.lookup i = some v) : (i, v) ∈ lv := by
  induction lv with
  | nil => simp at h
  | cons q t ih =>
    obtain ⟨j, w⟩ := q
    rw [List.lookup_cons] at h
    by_cases e : i = j
    · subst e
      simp at h
      subst h
      exact List.mem_cons_self
    · rw [show (i == j) = false from by simp [e]] at h
      exact List.mem_cons_of_mem _ (ih h)
theorem ab_lv {E : ab_E} {ls : Array Slot} {nL : Nat} {lv : List (Nat × Value)} {i : Nat} {v : Value} (h : lv_has ls nL (ab_l E lv)) (hl : lv.lookup i = some v) : ls[i]? = some (.val (ab_v E v)) :=
  h.2.2 (i, ab_v E v) (List.mem_map.mpr ⟨(i, v), ab_lu hl, rfl⟩)
/-- the heap behind one changed cell -/
theorem ab_H.set {E : ab_E} {h : List ab_C} {H H1 : Heap} {a : Nat} {x : ab_C} (hH : ab_H E h H) (hat : va_at E.1 classes (ab_n E + a, ab_c E x) H1) (hz : H1.size = H.size) (ho : ∀ q : Nat, q ≠ ab_n E + a → H1[q]? = H[q]?) : ab_H E (h.set a x) H1 := by
  obtain ⟨h1, h2, h3⟩ := hH
  refine ⟨by rw [hz, h1, List.length_set], fun k y hk => ?_, fun q hq => by rw [ho q (by omega)]; exact h3 q hq⟩
  by_cases e : k = a
  · subst e
    rw [List.getElem?_set_self'] at hk
    cases hx : h[k]? with
    | none => rw [hx] at hk; simp at hk
    | some z =>
      rw [hx] at hk
      simp at hk
      subst hk
      exact hat
  · rw [List.getElem?_set_ne (Ne.symm e)] at hk
    exact (h2 k y hk).kept (ho _ (by show ab_n E + k ≠ ab_n E + a; omega))
theorem ab_H.push {E : ab_E} {h : List ab_C} {H H1 : Heap} {x : ab_C} (hH : ab_H E h H) (hat : va_at E.1 classes (ab_n E + h.length, ab_c E x) H1) (hz : H1.size = H.size + 1) (ho : ∀ q : Nat, q < H.size → H1[q]? = H[q]?) : ab_H E (h ++ [x]) H1 := by
  obtain ⟨h1, h2, h3⟩ := hH
  refine ⟨by rw [hz, h1, List.length_append]; rfl, fun k y hk => ?_, fun q hq => by rw [ho q (by omega)]; exact h3 q hq⟩
  by_cases e : k < h.length
  · rw [List.getElem?_append_left e] at hk
    exact (h2 k y hk).kept (ho _ (by show ab_n E + k < H.size; omega))
  · rw [List.getElem?_append_right (by omega)] at hk
    have hz : k - h.length < 1 := (List.getElem?_eq_some_iff.mp hk).1
    rw [show k - h.length = 0 by omega] at hk
    cases hk
    rw [show k = h.length by omega]
    exact hat
theorem ab_H.pushes {E : ab_E} {h k : List ab_C} {H H1 : Heap} (hH : ab_H E h H) (hat : ∀ (j : Nat) (x : ab_C), k[j]? = some x → va_at E.1 classes (ab_n E + (h.length + j), ab_c E x) H1) (hz : H1.size = H.size + k.length) (ho : ∀ q : Nat, q < H.size → H1[q]? = H[q]?) : ab_H E (h ++ k) H1 := by
  obtain ⟨h1, h2, h3⟩ := hH
  refine ⟨by rw [hz, h1, List.length_append]; omega, fun i y hk => ?_, fun q hq => by rw [ho q (by omega)]; exact h3 q hq⟩
  by_cases e : i < h.length
  · rw [List.getElem?_append_left e] at hk
    exact (h2 i y hk).kept (ho _ (by show ab_n E + i < H.size; omega))
  · rw [List.getElem?_append_right (by omega)] at hk
    have := hat _ y hk
    rw [show h.length + (i - h.length) = i by omega] at this
    exact this
/-- a method's start and end -/
def ab_P (E : ab_E) (av : List Value) (h : List ab_C) : Array Value → State → Prop := fun a U => a = (av.map (ab_v E)).toArray ∧ ab_H E h U.heap ∧ ab_K E U
def ab_Q (E : ab_E) (Post : Option Value → List ab_C → Prop) : Array Value → State → Outcome → State → Prop := fun _ _ o t => ∃ (r : Option Value) (h1 : List ab_C), o = .returned (r.map (ab_v E)) ∧ Post r h1 ∧ ab_H E h1 t.heap
/-- a contract: called with av at the heap h it returns, and Post holds of the answer and the heap; fr: how deep its calls go; mc cells of ms slots at most are new -/
def ab_Con (E : ab_E) (l : Launch) (y : MethodName) (bytes : ByteArray) (maxL : Nat) (ret : Option FieldType) (fr lo : Nat) (av : List Value) (h : List ab_C) (mc ms : Nat) (Post : Option Value → List ab_C → Prop) : Prop :=
  Met l y (.code y bytes maxL ret :: ab_tbl) { frames := fr, cells := mc, slots := ms, locals := lo } (ab_P E av h) (ab_Q E Post) mc ms (fun q => ab_n E ≤ q)
def ab_R (E : ab_E) (G : Heap → List Loc → Nat → Nat → JFrame → Prop) (m : MethodId) (nL ce sl pc : Nat) (lv : List (Nat × Value)) (st : List Value) (h : List ab_C) : Prop :=
  ∀ (H : Heap) (locs : List Loc) (ls : Array Slot), ab_H E h H → (∀ q ∈ locs, ab_n E ≤ q.base) → lv_has ls nL (ab_l E lv) → G H locs ce sl (F0 m pc ls (st.map (ab_v E)))
/-- where a method stands -/
def ab_X (E : ab_E) (l : Launch) (G : Heap → List Loc → Nat → Nat → JFrame → Prop) (m : MethodId) (cc : ByteArray) (nL : Nat) (own : String) (ini : Bool) (ret : Option FieldType) (fr lo mc ms : Nat) (Post : Option (Option Value → List ab_C → Prop)) : Prop :=
  ∃ (p : Program) (e : Env) (s : State) (args : Array Value) (below : List Frame) (meth : Method) (c : Code) (R : Room) (Q : State → Prop), G = (fun H locs ce sl g => W p l e R s m args below meth c H locs ce sl Q g) ∧
    (∀ P, Post = some P → Q = MQ below (ab_Q E P) args s mc ms (fun q => ab_n E ≤ q)) ∧
    p.tables.exec = Jvm.exec ∧ c.code = cc ∧ c.maxLocals = nL ∧ s.vm.findClass own = some m.cls ∧ (∀ w ∈ ab_tbl, w.before args s = true) ∧ meth.sig.returnType = ret ∧ meth.locks = false ∧ ab_K E s ∧ R.frames = fr ∧ R.locals = lo ∧ R.cells = mc ∧ R.slots = ms ∧ (ini = true → meth.name = "<init>")
section ABR
variable {E : ab_E} {l : Launch} {G : Heap → List Loc → Nat → Nat → JFrame → Prop} {m : MethodId} {cc : ByteArray} {nL : Nat} {own : String} {ini : Bool} {ret : Option FieldType} {fr lo mc ms : Nat} {Post : Option (Option Value → List ab_C → Prop)} {ce sl pc : Nat} {lv : List (Nat × Value)} {st : List Value} {h : List ab_C}
/-- fewer locals, in any order -/
theorem ab_sub (lv' : List (Nat × Value)) (hl : lv'.map (fun q => lv.lookup q.1) = lv'.map (fun q => some q.2)) (kk : ab_R E G m nL ce sl pc lv' st h) : ab_R E G m nL ce sl pc lv st h := by
  intro H locs ls hH hL hls
  refine kk H locs ls hH hL ⟨hls.1, hls.2.1, fun q hq => ?_⟩
  obtain ⟨r, hr, rfl⟩ := List.mem_map.mp hq
  refine ab_lv (v := r.2) hls ?_
  obtain ⟨i, hi⟩ := List.getElem?_of_mem hr
  have h1 := congrArg (fun z => z[i]?) hl
  simp only [List.getElem?_map, hi, Option.map_some] at h1
  exact Option.some.inj h1
theorem ab_st {st' : List Value} (e : st = st') (kk : ab_R E G m nL ce sl pc lv st' h) : ab_R E G m nL ce sl pc lv st h := e ▸ kk
theorem ab_hp {h' : List ab_C} (e : h = h') (kk : ab_R E G m nL ce sl pc lv st h') : ab_R E G m nL ce sl pc lv st h := e ▸ kk
theorem a_iconst (X : ab_X E l G m cc nL own ini ret fr lo mc ms Post) {n : Int} {v : Int32} (d : decode cc pc = .ok (.iconst n, 1)) (hv : Int32.ofInt n = v) (kk : ab_R E G m nL ce sl (pc + 1) lv (.int v :: st) h) : ab_R E G m nL ce sl pc lv st h := by
  obtain ⟨p, e, s, args, below, meth, c, R, Q, rfl, hQ, hx, hb, hml, hown, hts, hr, hlk, hK, r1, r2, r3, r4, hini⟩ := X
  intro H locs ls hH hL hls
  exact lv_iconst hx hb d hv (kk H locs ls hH hL hls)
theorem a_bipush (X : ab_X E l G m cc nL own ini ret fr lo mc ms Post) {n : Int} {v : Int32} (d : decode cc pc = .ok (.bipush n, 2)) (hv : (Int8.ofInt n).toInt32 = v) (kk : ab_R E G m nL ce sl (pc + 2) lv (.int v :: st) h) : ab_R E G m nL ce sl pc lv st h := by
  obtain ⟨p, e, s, args, below, meth, c, R, Q, rfl, hQ, hx, hb, hml, hown, hts, hr, hlk, hK, r1, r2, r3, r4, hini⟩ := X
  intro H locs ls hH hL hls
  exact lv_bipush hx hb d hv (kk H locs ls hH hL hls)
theorem a_sipush (X : ab_X E l G m cc nL own ini ret fr lo mc ms Post) {n : Int} {v : Int32} (d : decode cc pc = .ok (.sipush n, 3)) (hv : (Int16.ofInt n).toInt32 = v) (kk : ab_R E G m nL ce sl (pc + 3) lv (.int v :: st) h) : ab_R E G m nL ce sl pc lv st h := by
  obtain ⟨p, e, s, args, below, meth, c, R, Q, rfl, hQ, hx, hb, hml, hown, hts, hr, hlk, hK, r1, r2, r3, r4, hini⟩ := X
  intro H locs ls hH hL hls
  exact lv_sipush hx hb d hv (kk H locs ls hH hL hls)
theorem a_lconst (X : ab_X E l G m cc nL own ini ret fr lo mc ms Post) {n : Fin 2} {v : Int64} (d : decode cc pc = .ok (.lconst n, 1)) (hv : Int64.ofNat n = v) (kk : ab_R E G m nL ce sl (pc + 1) lv (.long v :: st) h) : ab_R E G m nL ce sl pc lv st h := by
  obtain ⟨p, e, s, args, below, meth, c, R, Q, rfl, hQ, hx, hb, hml, hown, hts, hr, hlk, hK, r1, r2, r3, r4, hini⟩ := X
  intro H locs ls hH hL hls
  exact lv_lconst hx hb d hv (kk H locs ls hH hL hls)
theorem a_iload_n (X : ab_X E l G m cc nL own ini ret fr lo mc ms Post) {k : Fin 4} {x : Int32} (i : Nat) (d : decode cc pc = .ok (.iload_n k, 1)) (hi : (k : Nat) = i) (hl : lv.lookup i = some (.int x)) (kk : ab_R E G m nL ce sl (pc + 1) lv (.int x :: st) h) : ab_R E G m nL ce sl pc lv st h := by
  obtain ⟨p, e, s, args, below, meth, c, R, Q, rfl, hQ, hx, hb, hml, hown, hts, hr, hlk, hK, r1, r2, r3, r4, hini⟩ := X
  intro H locs ls hH hL hls
  exact lv_iload_n hx hb d hi (ab_lv hls hl) (kk H locs ls hH hL hls)
theorem a_iload (X : ab_X E l G m cc nL own ini ret fr lo mc ms Post) {i : Nat} {x : Int32} (d : decode cc pc = .ok (.iload i, 2)) (hl : lv.lookup i = some (.int x)) (kk : ab_R E G m nL ce sl (pc + 2) lv (.int x :: st) h) : ab_R E G m nL ce sl pc lv st h := by
  obtain ⟨p, e, s, args, below, meth, c, R, Q, rfl, hQ, hx, hb, hml, hown, hts, hr, hlk, hK, r1, r2, r3, r4, hini⟩ := X
  intro H locs ls hH hL hls
  exact lv_iload hx hb d (ab_lv hls hl) (kk H locs ls hH hL hls)
theorem a_lload_n (X : ab_X E l G m cc nL own ini ret fr lo mc ms Post) {k : Fin 4} {x : Int64} (i : Nat) (d : decode cc pc = .ok (.lload_n k, 1)) (hi : (k : Nat) = i) (hl : lv.lookup i = some (.long x)) (kk : ab_R E G m nL ce sl (pc + 1) lv (.long x :: st) h) : ab_R E G m nL ce sl pc lv st h := by
  obtain ⟨p, e, s, args, below, meth, c, R, Q, rfl, hQ, hx, hb, hml, hown, hts, hr, hlk, hK, r1, r2, r3, r4, hini⟩ := X
  intro H locs ls hH hL hls
  exact lv_lload_n hx hb d hi (ab_lv hls hl) (kk H locs ls hH hL hls)
theorem a_lload (X : ab_X E l G m cc nL own ini ret fr lo mc ms Post) {i : Nat} {x : Int64} (d : decode cc pc = .ok (.lload i, 2)) (hl : lv.lookup i = some (.long x)) (kk : ab_R E G m nL ce sl (pc + 2) lv (.long x :: st) h) : ab_R E G m nL ce sl pc lv st h := by
  obtain ⟨p, e, s, args, below, meth, c, R, Q, rfl, hQ, hx, hb, hml, hown, hts, hr, hlk, hK, r1, r2, r3, r4, hini⟩ := X
  intro H locs ls hH hL hls
  exact lv_lload hx hb d (ab_lv hls hl) (kk H locs ls hH hL hls)
theorem a_aload_n (X : ab_X E l G m cc nL own ini ret fr lo mc ms Post) {k : Fin 4} {x : Nat} (i : Nat) (d : decode cc pc = .ok (.aload_n k, 1)) (hi : (k : Nat) = i) (hl : lv.lookup i = some (.ref x)) (kk : ab_R E G m nL ce sl (pc + 1) lv (.ref x :: st) h) : ab_R E G m nL ce sl pc lv st h := by
  obtain ⟨p, e, s, args, below, meth, c, R, Q, rfl, hQ, hx, hb, hml, hown, hts, hr, hlk, hK, r1, r2, r3, r4, hini⟩ := X
  intro H locs ls hH hL hls
  exact lv_aload_n hx hb d hi (ab_lv hls hl) (kk H locs ls hH hL hls)
theorem a_aload (X : ab_X E l G m cc nL own ini ret fr lo mc ms Post) {i : Nat} {x : Nat} (d : decode cc pc = .ok (.aload i, 2)) (hl : lv.lookup i = some (.ref x)) (kk : ab_R E G m nL ce sl (pc + 2) lv (.ref x :: st) h) : ab_R E G m nL ce sl pc lv st h := by
  obtain ⟨p, e, s, args, below, meth, c, R, Q, rfl, hQ, hx, hb, hml, hown, hts, hr, hlk, hK, r1, r2, r3, r4, hini⟩ := X
  intro H locs ls hH hL hls
  exact lv_aload hx hb d (ab_lv hls hl) (kk H locs ls hH hL hls)
theorem a_istore_n (X : ab_X E l G m cc nL own ini ret fr lo mc ms Post) {k : Fin 4} {x : Int32} (i : Nat) (d : decode cc pc = .ok (.istore_n k, 1)) (hi : (k : Nat) = i) (hn : i < nL) (kk : ab_R E G m nL ce sl (pc + 1) (ab_s1 lv i (.int x)) st h) : ab_R E G m nL ce sl pc lv (.int x :: st) h := by
  obtain ⟨p, e, s, args, below, meth, c, R, Q, rfl, hQ, hx, hb, hml, hown, hts, hr, hlk, hK, r1, r2, r3, r4, hini⟩ := X
  intro H locs ls hH hL hls
  exact lv_istore_n hx hb d hi hls hn (ab_s1_map E lv i (.int x)) (fun ls' hls' => kk H locs ls' hH hL hls')
theorem a_istore (X : ab_X E l G m cc nL own ini ret fr lo mc ms Post) {i : Nat} {x : Int32} (d : decode cc pc = .ok (.istore i, 2)) (hn : i < nL) (kk : ab_R E G m nL ce sl (pc + 2) (ab_s1 lv i (.int x)) st h) : ab_R E G m nL ce sl pc lv (.int x :: st) h := by
  obtain ⟨p, e, s, args, below, meth, c, R, Q, rfl, hQ, hx, hb, hml, hown, hts, hr, hlk, hK, r1, r2, r3, r4, hini⟩ := X
  intro H locs ls hH hL hls
  exact lv_istore hx hb d hls hn (ab_s1_map E lv i (.int x)) (fun ls' hls' => kk H locs ls' hH hL hls')
theorem a_lstore_n (X : ab_X E l G m cc nL own ini ret fr lo mc ms Post) {k : Fin 4} {x : Int64} (i : Nat) (d : decode cc pc = .ok (.lstore_n k, 1)) (hi : (k : Nat) = i) (hn : i + 1 < nL) (kk : ab_R E G m nL ce sl (pc + 1) (ab_s2 lv i (.long x)) st h) : ab_R E G m nL ce sl pc lv (.long x :: st) h := by
  obtain ⟨p, e, s, args, below, meth, c, R, Q, rfl, hQ, hx, hb, hml, hown, hts, hr, hlk, hK, r1, r2, r3, r4, hini⟩ := X
  intro H locs ls hH hL hls
  exact lv_lstore_n hx hb d hi hls hn (ab_s2_map E lv i (.long x)) (fun ls' hls' => kk H locs ls' hH hL hls')
theorem a_lstore (X : ab_X E l G m cc nL own ini ret fr lo mc ms Post) {i : Nat} {x : Int64} (d : decode cc pc = .ok (.lstore i, 2)) (hn : i + 1 < nL) (kk : ab_R E G m nL ce sl (pc + 2) (ab_s2 lv i (.long x)) st h) : ab_R E G m nL ce sl pc lv (.long x :: st) h := by
  obtain ⟨p, e, s, args, below, meth, c, R, Q, rfl, hQ, hx, hb, hml, hown, hts, hr, hlk, hK, r1, r2, r3, r4, hini⟩ := X
  intro H locs ls hH hL hls
  exact lv_lstore hx hb d hls hn (ab_s2_map E lv i (.long x)) (fun ls' hls' => kk H locs ls' hH hL hls')
theorem a_astore_n (X : ab_X E l G m cc nL own ini ret fr lo mc ms Post) {k : Fin 4} {x : Nat} (i : Nat) (d : decode cc pc = .ok (.astore_n k, 1)) (hi : (k : Nat) = i) (hn : i < nL) (kk : ab_R E G m nL ce sl (pc + 1) (ab_s1 lv i (.ref x)) st h) : ab_R E G m nL ce sl pc lv (.ref x :: st) h := by
  obtain ⟨p, e, s, args, below, meth, c, R, Q, rfl, hQ, hx, hb, hml, hown, hts, hr, hlk, hK, r1, r2, r3, r4, hini⟩ := X
  intro H locs ls hH hL hls
  exact lv_astore_n hx hb d hi hls hn (ab_s1_map E lv i (.ref x)) (fun ls' hls' => kk H locs ls' hH hL hls')
theorem a_astore (X : ab_X E l G m cc nL own ini ret fr lo mc ms Post) {i : Nat} {x : Nat} (d : decode cc pc = .ok (.astore i, 2)) (hn : i < nL) (kk : ab_R E G m nL ce sl (pc + 2) (ab_s1 lv i (.ref x)) st h) : ab_R E G m nL ce sl pc lv (.ref x :: st) h := by
  obtain ⟨p, e, s, args, below, meth, c, R, Q, rfl, hQ, hx, hb, hml, hown, hts, hr, hlk, hK, r1, r2, r3, r4, hini⟩ := X
  intro H locs ls hH hL hls
  exact lv_astore hx hb d hls hn (ab_s1_map E lv i (.ref x)) (fun ls' hls' => kk H locs ls' hH hL hls')
theorem a_iinc (X : ab_X E l G m cc nL own ini ret fr lo mc ms Post) {i : Nat} {n : Int} {x v : Int32} (d : decode cc pc = .ok (.iinc i n, 3)) (hl : lv.lookup i = some (.int x)) (hv : x + Int32.ofInt n = v) (hn : i < nL) (kk : ab_R E G m nL ce sl (pc + 3) (ab_s1 lv i (.int v)) st h) : ab_R E G m nL ce sl pc lv st h := by
  obtain ⟨p, e, s, args, below, meth, c, R, Q, rfl, hQ, hx, hb, hml, hown, hts, hr, hlk, hK, r1, r2, r3, r4, hini⟩ := X
  intro H locs ls hH hL hls
  obtain ⟨j, hj⟩ := List.getElem?_of_mem (ab_lu hl)
  exact lv_iinc (k := j) hx hb d hls (by rw [List.getElem?_map, hj]; rfl) hv hn (ab_s1_map E lv i (.int v)) (fun ls' hls' => kk H locs ls' hH hL hls')
theorem a_iadd (X : ab_X E l G m cc nL own ini ret fr lo mc ms Post) {x y : Int32} (d : decode cc pc = .ok (.iadd, 1)) (kk : ab_R E G m nL ce sl (pc + 1) lv (.int (x + y) :: st) h) : ab_R E G m nL ce sl pc lv (.int y :: .int x :: st) h := by
  obtain ⟨p, e, s, args, below, meth, c, R, Q, rfl, hQ, hx, hb, hml, hown, hts, hr, hlk, hK, r1, r2, r3, r4, hini⟩ := X
  intro H locs ls hH hL hls
  exact lv_iadd hx hb d (kk H locs ls hH hL hls)
theorem a_isub (X : ab_X E l G m cc nL own ini ret fr lo mc ms Post) {x y : Int32} (d : decode cc pc = .ok (.isub, 1)) (kk : ab_R E G m nL ce sl (pc + 1) lv (.int (x - y) :: st) h) : ab_R E G m nL ce sl pc lv (.int y :: .int x :: st) h := by
  obtain ⟨p, e, s, args, below, meth, c, R, Q, rfl, hQ, hx, hb, hml, hown, hts, hr, hlk, hK, r1, r2, r3, r4, hini⟩ := X
  intro H locs ls hH hL hls
  exact lv_isub hx hb d (kk H locs ls hH hL hls)
theorem a_imul (X : ab_X E l G m cc nL own ini ret fr lo mc ms Post) {x y : Int32} (d : decode cc pc = .ok (.imul, 1)) (kk : ab_R E G m nL ce sl (pc + 1) lv (.int (x * y) :: st) h) : ab_R E G m nL ce sl pc lv (.int y :: .int x :: st) h := by
  obtain ⟨p, e, s, args, below, meth, c, R, Q, rfl, hQ, hx, hb, hml, hown, hts, hr, hlk, hK, r1, r2, r3, r4, hini⟩ := X
  intro H locs ls hH hL hls
  exact lv_imul hx hb d (kk H locs ls hH hL hls)
theorem a_iand (X : ab_X E l G m cc nL own ini ret fr lo mc ms Post) {x y : Int32} (d : decode cc pc = .ok (.iand, 1)) (kk : ab_R E G m nL ce sl (pc + 1) lv (.int (x &&& y) :: st) h) : ab_R E G m nL ce sl pc lv (.int y :: .int x :: st) h := by
  obtain ⟨p, e, s, args, below, meth, c, R, Q, rfl, hQ, hx, hb, hml, hown, hts, hr, hlk, hK, r1, r2, r3, r4, hini⟩ := X
  intro H locs ls hH hL hls
  exact lv_iand hx hb d (kk H locs ls hH hL hls)
theorem a_ior (X : ab_X E l G m cc nL own ini ret fr lo mc ms Post) {x y : Int32} (d : decode cc pc = .ok (.ior, 1)) (kk : ab_R E G m nL ce sl (pc + 1) lv (.int (x ||| y) :: st) h) : ab_R E G m nL ce sl pc lv (.int y :: .int x :: st) h := by
  obtain ⟨p, e, s, args, below, meth, c, R, Q, rfl, hQ, hx, hb, hml, hown, hts, hr, hlk, hK, r1, r2, r3, r4, hini⟩ := X
  intro H locs ls hH hL hls
  exact lv_ior hx hb d (kk H locs ls hH hL hls)
theorem a_ixor (X : ab_X E l G m cc nL own ini ret fr lo mc ms Post) {x y : Int32} (d : decode cc pc = .ok (.ixor, 1)) (kk : ab_R E G m nL ce sl (pc + 1) lv (.int (x ^^^ y) :: st) h) : ab_R E G m nL ce sl pc lv (.int y :: .int x :: st) h := by
  obtain ⟨p, e, s, args, below, meth, c, R, Q, rfl, hQ, hx, hb, hml, hown, hts, hr, hlk, hK, r1, r2, r3, r4, hini⟩ := X
  intro H locs ls hH hL hls
  exact lv_ixor hx hb d (kk H locs ls hH hL hls)
theorem a_ishl (X : ab_X E l G m cc nL own ini ret fr lo mc ms Post) {x y : Int32} (d : decode cc pc = .ok (.ishl, 1)) (kk : ab_R E G m nL ce sl (pc + 1) lv (.int (x <<< (y &&& 31)) :: st) h) : ab_R E G m nL ce sl pc lv (.int y :: .int x :: st) h := by
  obtain ⟨p, e, s, args, below, meth, c, R, Q, rfl, hQ, hx, hb, hml, hown, hts, hr, hlk, hK, r1, r2, r3, r4, hini⟩ := X
  intro H locs ls hH hL hls
  exact lv_ishl hx hb d (kk H locs ls hH hL hls)
theorem a_ishr (X : ab_X E l G m cc nL own ini ret fr lo mc ms Post) {x y : Int32} (d : decode cc pc = .ok (.ishr, 1)) (kk : ab_R E G m nL ce sl (pc + 1) lv (.int (x >>> (y &&& 31)) :: st) h) : ab_R E G m nL ce sl pc lv (.int y :: .int x :: st) h := by
  obtain ⟨p, e, s, args, below, meth, c, R, Q, rfl, hQ, hx, hb, hml, hown, hts, hr, hlk, hK, r1, r2, r3, r4, hini⟩ := X
  intro H locs ls hH hL hls
  exact lv_ishr hx hb d (kk H locs ls hH hL hls)
theorem a_idiv (X : ab_X E l G m cc nL own ini ret fr lo mc ms Post) {x y : Int32} (d : decode cc pc = .ok (.idiv, 1)) (hne : ¬ y = 0) (kk : ab_R E G m nL ce sl (pc + 1) lv (.int (x / y) :: st) h) : ab_R E G m nL ce sl pc lv (.int y :: .int x :: st) h := by
  obtain ⟨p, e, s, args, below, meth, c, R, Q, rfl, hQ, hx, hb, hml, hown, hts, hr, hlk, hK, r1, r2, r3, r4, hini⟩ := X
  intro H locs ls hH hL hls
  exact lv_idiv hx hb d hne (kk H locs ls hH hL hls)
theorem a_irem (X : ab_X E l G m cc nL own ini ret fr lo mc ms Post) {x y : Int32} (d : decode cc pc = .ok (.irem, 1)) (hne : ¬ y = 0) (kk : ab_R E G m nL ce sl (pc + 1) lv (.int (x - x / y * y) :: st) h) : ab_R E G m nL ce sl pc lv (.int y :: .int x :: st) h := by
  obtain ⟨p, e, s, args, below, meth, c, R, Q, rfl, hQ, hx, hb, hml, hown, hts, hr, hlk, hK, r1, r2, r3, r4, hini⟩ := X
  intro H locs ls hH hL hls
  exact lv_irem hx hb d hne (kk H locs ls hH hL hls)
theorem a_ineg (X : ab_X E l G m cc nL own ini ret fr lo mc ms Post) {x : Int32} (d : decode cc pc = .ok (.ineg, 1)) (kk : ab_R E G m nL ce sl (pc + 1) lv (.int (-x) :: st) h) : ab_R E G m nL ce sl pc lv (.int x :: st) h := by
  obtain ⟨p, e, s, args, below, meth, c, R, Q, rfl, hQ, hx, hb, hml, hown, hts, hr, hlk, hK, r1, r2, r3, r4, hini⟩ := X
  intro H locs ls hH hL hls
  exact lv_ineg hx hb d (kk H locs ls hH hL hls)
theorem a_ladd (X : ab_X E l G m cc nL own ini ret fr lo mc ms Post) {x y : Int64} (d : decode cc pc = .ok (.ladd, 1)) (kk : ab_R E G m nL ce sl (pc + 1) lv (.long (x + y) :: st) h) : ab_R E G m nL ce sl pc lv (.long y :: .long x :: st) h := by
  obtain ⟨p, e, s, args, below, meth, c, R, Q, rfl, hQ, hx, hb, hml, hown, hts, hr, hlk, hK, r1, r2, r3, r4, hini⟩ := X
  intro H locs ls hH hL hls
  exact lv_ladd hx hb d (kk H locs ls hH hL hls)
theorem a_lsub (X : ab_X E l G m cc nL own ini ret fr lo mc ms Post) {x y : Int64} (d : decode cc pc = .ok (.lsub, 1)) (kk : ab_R E G m nL ce sl (pc + 1) lv (.long (x - y) :: st) h) : ab_R E G m nL ce sl pc lv (.long y :: .long x :: st) h := by
  obtain ⟨p, e, s, args, below, meth, c, R, Q, rfl, hQ, hx, hb, hml, hown, hts, hr, hlk, hK, r1, r2, r3, r4, hini⟩ := X
  intro H locs ls hH hL hls
  exact lv_lsub hx hb d (kk H locs ls hH hL hls)
theorem a_lmul (X : ab_X E l G m cc nL own ini ret fr lo mc ms Post) {x y : Int64} (d : decode cc pc = .ok (.lmul, 1)) (kk : ab_R E G m nL ce sl (pc + 1) lv (.long (x * y) :: st) h) : ab_R E G m nL ce sl pc lv (.long y :: .long x :: st) h := by
  obtain ⟨p, e, s, args, below, meth, c, R, Q, rfl, hQ, hx, hb, hml, hown, hts, hr, hlk, hK, r1, r2, r3, r4, hini⟩ := X
  intro H locs ls hH hL hls
  exact lv_lmul hx hb d (kk H locs ls hH hL hls)
theorem a_land (X : ab_X E l G m cc nL own ini ret fr lo mc ms Post) {x y : Int64} (d : decode cc pc = .ok (.land, 1)) (kk : ab_R E G m nL ce sl (pc + 1) lv (.long (x &&& y) :: st) h) : ab_R E G m nL ce sl pc lv (.long y :: .long x :: st) h := by
  obtain ⟨p, e, s, args, below, meth, c, R, Q, rfl, hQ, hx, hb, hml, hown, hts, hr, hlk, hK, r1, r2, r3, r4, hini⟩ := X
  intro H locs ls hH hL hls
  exact lv_land hx hb d (kk H locs ls hH hL hls)
theorem a_lor (X : ab_X E l G m cc nL own ini ret fr lo mc ms Post) {x y : Int64} (d : decode cc pc = .ok (.lor, 1)) (kk : ab_R E G m nL ce sl (pc + 1) lv (.long (x ||| y) :: st) h) : ab_R E G m nL ce sl pc lv (.long y :: .long x :: st) h := by
  obtain ⟨p, e, s, args, below, meth, c, R, Q, rfl, hQ, hx, hb, hml, hown, hts, hr, hlk, hK, r1, r2, r3, r4, hini⟩ := X
  intro H locs ls hH hL hls
  exact lv_lor hx hb d (kk H locs ls hH hL hls)
theorem a_lxor (X : ab_X E l G m cc nL own ini ret fr lo mc ms Post) {x y : Int64} (d : decode cc pc = .ok (.lxor, 1)) (kk : ab_R E G m nL ce sl (pc + 1) lv (.long (x ^^^ y) :: st) h) : ab_R E G m nL ce sl pc lv (.long y :: .long x :: st) h := by
  obtain ⟨p, e, s, args, below, meth, c, R, Q, rfl, hQ, hx, hb, hml, hown, hts, hr, hlk, hK, r1, r2, r3, r4, hini⟩ := X
  intro H locs ls hH hL hls
  exact lv_lxor hx hb d (kk H locs ls hH hL hls)
theorem a_ldiv (X : ab_X E l G m cc nL own ini ret fr lo mc ms Post) {x y : Int64} (d : decode cc pc = .ok (.ldiv, 1)) (hne : ¬ y = 0) (kk : ab_R E G m nL ce sl (pc + 1) lv (.long (x / y) :: st) h) : ab_R E G m nL ce sl pc lv (.long y :: .long x :: st) h := by
  obtain ⟨p, e, s, args, below, meth, c, R, Q, rfl, hQ, hx, hb, hml, hown, hts, hr, hlk, hK, r1, r2, r3, r4, hini⟩ := X
  intro H locs ls hH hL hls
  exact lv_ldiv hx hb d hne (kk H locs ls hH hL hls)
theorem a_lrem (X : ab_X E l G m cc nL own ini ret fr lo mc ms Post) {x y : Int64} (d : decode cc pc = .ok (.lrem, 1)) (hne : ¬ y = 0) (kk : ab_R E G m nL ce sl (pc + 1) lv (.long (x - x / y * y) :: st) h) : ab_R E G m nL ce sl pc lv (.long y :: .long x :: st) h := by
  obtain ⟨p, e, s, args, below, meth, c, R, Q, rfl, hQ, hx, hb, hml, hown, hts, hr, hlk, hK, r1, r2, r3, r4, hini⟩ := X
  intro H locs ls hH hL hls
  exact lv_lrem hx hb d hne (kk H locs ls hH hL hls)
theorem a_lneg (X : ab_X E l G m cc nL own ini ret fr lo mc ms Post) {x : Int64} (d : decode cc pc = .ok (.lneg, 1)) (kk : ab_R E G m nL ce sl (pc + 1) lv (.long (-x) :: st) h) : ab_R E G m nL ce sl pc lv (.long x :: st) h := by
  obtain ⟨p, e, s, args, below, meth, c, R, Q, rfl, hQ, hx, hb, hml, hown, hts, hr, hlk, hK, r1, r2, r3, r4, hini⟩ := X
  intro H locs ls hH hL hls
  exact lv_lneg hx hb d (kk H locs ls hH hL hls)
theorem a_iushr (X : ab_X E l G m cc nL own ini ret fr lo mc ms Post) {x y : Int32} (d : decode cc pc = .ok (.iushr, 1)) (kk : ab_R E G m nL ce sl (pc + 1) lv (.int ((x.toUInt32 >>> (y.toUInt32 &&& Int32.toUInt32 31)).toInt32) :: st) h) : ab_R E G m nL ce sl pc lv (.int y :: .int x :: st) h := by
  obtain ⟨p, e, s, args, below, meth, c, R, Q, rfl, hQ, hx, hb, hml, hown, hts, hr, hlk, hK, r1, r2, r3, r4, hini⟩ := X
  intro H locs ls hH hL hls
  exact lv_iushr hx hb d rfl (kk H locs ls hH hL hls)
theorem a_lushr (X : ab_X E l G m cc nL own ini ret fr lo mc ms Post) {x : Int64} {y : Int32} (d : decode cc pc = .ok (.lushr, 1)) (kk : ab_R E G m nL ce sl (pc + 1) lv (.long ((x.toUInt64 >>> (y.toInt64.toUInt64 &&& Int64.toUInt64 63)).toInt64) :: st) h) : ab_R E G m nL ce sl pc lv (.int y :: .long x :: st) h := by
  obtain ⟨p, e, s, args, below, meth, c, R, Q, rfl, hQ, hx, hb, hml, hown, hts, hr, hlk, hK, r1, r2, r3, r4, hini⟩ := X
  intro H locs ls hH hL hls
  exact lv_lushr hx hb d rfl (kk H locs ls hH hL hls)
theorem a_lshl (X : ab_X E l G m cc nL own ini ret fr lo mc ms Post) {x : Int64} {y : Int32} (d : decode cc pc = .ok (.lshl, 1)) (kk : ab_R E G m nL ce sl (pc + 1) lv (.long (x <<< (y.toInt64 &&& 63)) :: st) h) : ab_R E G m nL ce sl pc lv (.int y :: .long x :: st) h := by
  obtain ⟨p, e, s, args, below, meth, c, R, Q, rfl, hQ, hx, hb, hml, hown, hts, hr, hlk, hK, r1, r2, r3, r4, hini⟩ := X
  intro H locs ls hH hL hls
  exact lv_lshl hx hb d rfl (kk H locs ls hH hL hls)
theorem a_lshr (X : ab_X E l G m cc nL own ini ret fr lo mc ms Post) {x : Int64} {y : Int32} (d : decode cc pc = .ok (.lshr, 1)) (kk : ab_R E G m nL ce sl (pc + 1) lv (.long (x >>> (y.toInt64 &&& 63)) :: st) h) : ab_R E G m nL ce sl pc lv (.int y :: .long x :: st) h := by
  obtain ⟨p, e, s, args, below, meth, c, R, Q, rfl, hQ, hx, hb, hml, hown, hts, hr, hlk, hK, r1, r2, r3, r4, hini⟩ := X
  intro H locs ls hH hL hls
  exact lv_lshr hx hb d rfl (kk H locs ls hH hL hls)
theorem a_i2l (X : ab_X E l G m cc nL own ini ret fr lo mc ms Post) {x : Int32} (d : decode cc pc = .ok (.i2l, 1)) (kk : ab_R E G m nL ce sl (pc + 1) lv (.long x.toInt64 :: st) h) : ab_R E G m nL ce sl pc lv (.int x :: st) h := by
  obtain ⟨p, e, s, args, below, meth, c, R, Q, rfl, hQ, hx, hb, hml, hown, hts, hr, hlk, hK, r1, r2, r3, r4, hini⟩ := X
  intro H locs ls hH hL hls
  exact lv_i2l hx hb d rfl (kk H locs ls hH hL hls)
theorem a_l2i (X : ab_X E l G m cc nL own ini ret fr lo mc ms Post) {x : Int64} (d : decode cc pc = .ok (.l2i, 1)) (kk : ab_R E G m nL ce sl (pc + 1) lv (.int x.toInt32 :: st) h) : ab_R E G m nL ce sl pc lv (.long x :: st) h := by
  obtain ⟨p, e, s, args, below, meth, c, R, Q, rfl, hQ, hx, hb, hml, hown, hts, hr, hlk, hK, r1, r2, r3, r4, hini⟩ := X
  intro H locs ls hH hL hls
  exact lv_l2i hx hb d rfl (kk H locs ls hH hL hls)
theorem a_lcmp (X : ab_X E l G m cc nL own ini ret fr lo mc ms Post) {x y : Int64} (d : decode cc pc = .ok (.lcmp, 1)) (kk : ab_R E G m nL ce sl (pc + 1) lv (.int (lg_cmp x y) :: st) h) : ab_R E G m nL ce sl pc lv (.long y :: .long x :: st) h := by
  obtain ⟨p, e, s, args, below, meth, c, R, Q, rfl, hQ, hx, hb, hml, hown, hts, hr, hlk, hK, r1, r2, r3, r4, hini⟩ := X
  intro H locs ls hH hL hls
  exact W.lcmp hx hb d (kk H locs ls hH hL hls)
theorem a_dup (X : ab_X E l G m cc nL own ini ret fr lo mc ms Post) {va : Value} (d : decode cc pc = .ok (.dup, 1)) (hva : va.category = 1) (kk : ab_R E G m nL ce sl (pc + 1) lv (va :: va :: st) h) : ab_R E G m nL ce sl pc lv (va :: st) h := by
  obtain ⟨p, e, s, args, below, meth, c, R, Q, rfl, hQ, hx, hb, hml, hown, hts, hr, hlk, hK, r1, r2, r3, r4, hini⟩ := X
  intro H locs ls hH hL hls
  exact lv_dup hx hb d ((ab_cat E va).trans hva) (kk H locs ls hH hL hls)
theorem a_pop (X : ab_X E l G m cc nL own ini ret fr lo mc ms Post) {va : Value} (d : decode cc pc = .ok (.pop, 1)) (hva : va.category = 1) (kk : ab_R E G m nL ce sl (pc + 1) lv st h) : ab_R E G m nL ce sl pc lv (va :: st) h := by
  obtain ⟨p, e, s, args, below, meth, c, R, Q, rfl, hQ, hx, hb, hml, hown, hts, hr, hlk, hK, r1, r2, r3, r4, hini⟩ := X
  intro H locs ls hH hL hls
  exact lv_pop hx hb d ((ab_cat E va).trans hva) (kk H locs ls hH hL hls)
theorem a_pop2 (X : ab_X E l G m cc nL own ini ret fr lo mc ms Post) {va : Value} (d : decode cc pc = .ok (.pop2, 1)) (hva : va.category = 2) (kk : ab_R E G m nL ce sl (pc + 1) lv st h) : ab_R E G m nL ce sl pc lv (va :: st) h := by
  obtain ⟨p, e, s, args, below, meth, c, R, Q, rfl, hQ, hx, hb, hml, hown, hts, hr, hlk, hK, r1, r2, r3, r4, hini⟩ := X
  intro H locs ls hH hL hls
  exact lv_pop2_2 hx hb d ((ab_cat E va).trans hva) (kk H locs ls hH hL hls)
theorem a_dup_x1 (X : ab_X E l G m cc nL own ini ret fr lo mc ms Post) {va vb : Value} (d : decode cc pc = .ok (.dup_x1, 1)) (hva : va.category = 1) (hvb : vb.category = 1) (kk : ab_R E G m nL ce sl (pc + 1) lv (va :: vb :: va :: st) h) : ab_R E G m nL ce sl pc lv (va :: vb :: st) h := by
  obtain ⟨p, e, s, args, below, meth, c, R, Q, rfl, hQ, hx, hb, hml, hown, hts, hr, hlk, hK, r1, r2, r3, r4, hini⟩ := X
  intro H locs ls hH hL hls
  exact lv_dup_x1 hx hb d ((ab_cat E va).trans hva) ((ab_cat E vb).trans hvb) (kk H locs ls hH hL hls)
theorem a_dup_x2 (X : ab_X E l G m cc nL own ini ret fr lo mc ms Post) {va vb vd : Value} (d : decode cc pc = .ok (.dup_x2, 1)) (hva : va.category = 1) (hvb : vb.category = 1) (hvd : vd.category = 1) (kk : ab_R E G m nL ce sl (pc + 1) lv (va :: vb :: vd :: va :: st) h) : ab_R E G m nL ce sl pc lv (va :: vb :: vd :: st) h := by
  obtain ⟨p, e, s, args, below, meth, c, R, Q, rfl, hQ, hx, hb, hml, hown, hts, hr, hlk, hK, r1, r2, r3, r4, hini⟩ := X
  intro H locs ls hH hL hls
  exact lv_dup_x2 hx hb d ((ab_cat E va).trans hva) ((ab_cat E vb).trans hvb) ((ab_cat E vd).trans hvd) (kk H locs ls hH hL hls)
theorem a_dup2 (X : ab_X E l G m cc nL own ini ret fr lo mc ms Post) {va vb : Value} (d : decode cc pc = .ok (.dup2, 1)) (hva : va.category = 1) (hvb : vb.category = 1) (kk : ab_R E G m nL ce sl (pc + 1) lv (va :: vb :: va :: vb :: st) h) : ab_R E G m nL ce sl pc lv (va :: vb :: st) h := by
  obtain ⟨p, e, s, args, below, meth, c, R, Q, rfl, hQ, hx, hb, hml, hown, hts, hr, hlk, hK, r1, r2, r3, r4, hini⟩ := X
  intro H locs ls hH hL hls
  exact lv_dup2_11 hx hb d ((ab_cat E va).trans hva) ((ab_cat E vb).trans hvb) (kk H locs ls hH hL hls)
theorem a_dup2_2 (X : ab_X E l G m cc nL own ini ret fr lo mc ms Post) {va : Value} (d : decode cc pc = .ok (.dup2, 1)) (hva : va.category = 2) (kk : ab_R E G m nL ce sl (pc + 1) lv (va :: va :: st) h) : ab_R E G m nL ce sl pc lv (va :: st) h := by
  obtain ⟨p, e, s, args, below, meth, c, R, Q, rfl, hQ, hx, hb, hml, hown, hts, hr, hlk, hK, r1, r2, r3, r4, hini⟩ := X
  intro H locs ls hH hL hls
  exact lv_dup2_2 hx hb d ((ab_cat E va).trans hva) (kk H locs ls hH hL hls)
theorem a_dup2_x1 (X : ab_X E l G m cc nL own ini ret fr lo mc ms Post) {va vb : Value} (d : decode cc pc = .ok (.dup2_x1, 1)) (hva : va.category = 2) (hvb : vb.category = 1) (kk : ab_R E G m nL ce sl (pc + 1) lv (va :: vb :: va :: st) h) : ab_R E G m nL ce sl pc lv (va :: vb :: st) h := by
  obtain ⟨p, e, s, args, below, meth, c, R, Q, rfl, hQ, hx, hb, hml, hown, hts, hr, hlk, hK, r1, r2, r3, r4, hini⟩ := X
  intro H locs ls hH hL hls
  exact lv_dup2_x1_2 hx hb d ((ab_cat E va).trans hva) ((ab_cat E vb).trans hvb) (kk H locs ls hH hL hls)
theorem a_dup2_x2 (X : ab_X E l G m cc nL own ini ret fr lo mc ms Post) {va vb vd : Value} (d : decode cc pc = .ok (.dup2_x2, 1)) (hva : va.category = 2) (hvb : vb.category = 1) (hvd : vd.category = 1) (kk : ab_R E G m nL ce sl (pc + 1) lv (va :: vb :: vd :: va :: st) h) : ab_R E G m nL ce sl pc lv (va :: vb :: vd :: st) h := by
  obtain ⟨p, e, s, args, below, meth, c, R, Q, rfl, hQ, hx, hb, hml, hown, hts, hr, hlk, hK, r1, r2, r3, r4, hini⟩ := X
  intro H locs ls hH hL hls
  exact lv_dup2_x2_2 hx hb d ((ab_cat E va).trans hva) ((ab_cat E vb).trans hvb) ((ab_cat E vd).trans hvd) (kk H locs ls hH hL hls)
theorem a_if_eq (X : ab_X E l G m cc nL own ini ret fr lo mc ms Post) {x : Int32} {off : Int} (tgt : Nat) (d : decode cc pc = .ok (.ifCond .eq off, 3)) (ht : (pc : Int) + off = (tgt : Int)) (kt : x = 0 → ab_R E G m nL ce sl tgt lv st h) (kf : ¬ x = 0 → ab_R E G m nL ce sl (pc + 3) lv st h) : ab_R E G m nL ce sl pc lv (.int x :: st) h := by
  obtain ⟨p, e, s, args, below, meth, c, R, Q, rfl, hQ, hx, hb, hml, hown, hts, hr, hlk, hK, r1, r2, r3, r4, hini⟩ := X
  intro H locs ls hH hL hls
  exact lv_if_eq hx hb d ht (fun q => kt q H locs ls hH hL hls) (fun q => kf q H locs ls hH hL hls)
theorem a_icmp_eq (X : ab_X E l G m cc nL own ini ret fr lo mc ms Post) {x y : Int32} {off : Int} (tgt : Nat) (d : decode cc pc = .ok (.if_icmp .eq off, 3)) (ht : (pc : Int) + off = (tgt : Int)) (kt : x = y → ab_R E G m nL ce sl tgt lv st h) (kf : ¬ x = y → ab_R E G m nL ce sl (pc + 3) lv st h) : ab_R E G m nL ce sl pc lv (.int y :: .int x :: st) h := by
  obtain ⟨p, e, s, args, below, meth, c, R, Q, rfl, hQ, hx, hb, hml, hown, hts, hr, hlk, hK, r1, r2, r3, r4, hini⟩ := X
  intro H locs ls hH hL hls
  exact lv_icmp_eq hx hb d ht (fun q => kt q H locs ls hH hL hls) (fun q => kf q H locs ls hH hL hls)
theorem a_if_ne (X : ab_X E l G m cc nL own ini ret fr lo mc ms Post) {x : Int32} {off : Int} (tgt : Nat) (d : decode cc pc = .ok (.ifCond .ne off, 3)) (ht : (pc : Int) + off = (tgt : Int)) (kt : ¬ x = 0 → ab_R E G m nL ce sl tgt lv st h) (kf : x = 0 → ab_R E G m nL ce sl (pc + 3) lv st h) : ab_R E G m nL ce sl pc lv (.int x :: st) h := by
  obtain ⟨p, e, s, args, below, meth, c, R, Q, rfl, hQ, hx, hb, hml, hown, hts, hr, hlk, hK, r1, r2, r3, r4, hini⟩ := X
  intro H locs ls hH hL hls
  exact lv_if_ne hx hb d ht (fun q => kt q H locs ls hH hL hls) (fun q => kf q H locs ls hH hL hls)
theorem a_icmp_ne (X : ab_X E l G m cc nL own ini ret fr lo mc ms Post) {x y : Int32} {off : Int} (tgt : Nat) (d : decode cc pc = .ok (.if_icmp .ne off, 3)) (ht : (pc : Int) + off = (tgt : Int)) (kt : ¬ x = y → ab_R E G m nL ce sl tgt lv st h) (kf : x = y → ab_R E G m nL ce sl (pc + 3) lv st h) : ab_R E G m nL ce sl pc lv (.int y :: .int x :: st) h := by
  obtain ⟨p, e, s, args, below, meth, c, R, Q, rfl, hQ, hx, hb, hml, hown, hts, hr, hlk, hK, r1, r2, r3, r4, hini⟩ := X
  intro H locs ls hH hL hls
  exact lv_icmp_ne hx hb d ht (fun q => kt q H locs ls hH hL hls) (fun q => kf q H locs ls hH hL hls)
theorem a_if_lt (X : ab_X E l G m cc nL own ini ret fr lo mc ms Post) {x : Int32} {off : Int} (tgt : Nat) (d : decode cc pc = .ok (.ifCond .lt off, 3)) (ht : (pc : Int) + off = (tgt : Int)) (kt : x < 0 → ab_R E G m nL ce sl tgt lv st h) (kf : ¬ x < 0 → ab_R E G m nL ce sl (pc + 3) lv st h) : ab_R E G m nL ce sl pc lv (.int x :: st) h := by
  obtain ⟨p, e, s, args, below, meth, c, R, Q, rfl, hQ, hx, hb, hml, hown, hts, hr, hlk, hK, r1, r2, r3, r4, hini⟩ := X
  intro H locs ls hH hL hls
  exact lv_if_lt hx hb d ht (fun q => kt q H locs ls hH hL hls) (fun q => kf q H locs ls hH hL hls)
theorem a_icmp_lt (X : ab_X E l G m cc nL own ini ret fr lo mc ms Post) {x y : Int32} {off : Int} (tgt : Nat) (d : decode cc pc = .ok (.if_icmp .lt off, 3)) (ht : (pc : Int) + off = (tgt : Int)) (kt : x < y → ab_R E G m nL ce sl tgt lv st h) (kf : ¬ x < y → ab_R E G m nL ce sl (pc + 3) lv st h) : ab_R E G m nL ce sl pc lv (.int y :: .int x :: st) h := by
  obtain ⟨p, e, s, args, below, meth, c, R, Q, rfl, hQ, hx, hb, hml, hown, hts, hr, hlk, hK, r1, r2, r3, r4, hini⟩ := X
  intro H locs ls hH hL hls
  exact lv_icmp_lt hx hb d ht (fun q => kt q H locs ls hH hL hls) (fun q => kf q H locs ls hH hL hls)
theorem a_if_ge (X : ab_X E l G m cc nL own ini ret fr lo mc ms Post) {x : Int32} {off : Int} (tgt : Nat) (d : decode cc pc = .ok (.ifCond .ge off, 3)) (ht : (pc : Int) + off = (tgt : Int)) (kt : 0 ≤ x → ab_R E G m nL ce sl tgt lv st h) (kf : ¬ 0 ≤ x → ab_R E G m nL ce sl (pc + 3) lv st h) : ab_R E G m nL ce sl pc lv (.int x :: st) h := by
  obtain ⟨p, e, s, args, below, meth, c, R, Q, rfl, hQ, hx, hb, hml, hown, hts, hr, hlk, hK, r1, r2, r3, r4, hini⟩ := X
  intro H locs ls hH hL hls
  exact lv_if_ge hx hb d ht (fun q => kt q H locs ls hH hL hls) (fun q => kf q H locs ls hH hL hls)
theorem a_icmp_ge (X : ab_X E l G m cc nL own ini ret fr lo mc ms Post) {x y : Int32} {off : Int} (tgt : Nat) (d : decode cc pc = .ok (.if_icmp .ge off, 3)) (ht : (pc : Int) + off = (tgt : Int)) (kt : y ≤ x → ab_R E G m nL ce sl tgt lv st h) (kf : ¬ y ≤ x → ab_R E G m nL ce sl (pc + 3) lv st h) : ab_R E G m nL ce sl pc lv (.int y :: .int x :: st) h := by
  obtain ⟨p, e, s, args, below, meth, c, R, Q, rfl, hQ, hx, hb, hml, hown, hts, hr, hlk, hK, r1, r2, r3, r4, hini⟩ := X
  intro H locs ls hH hL hls
  exact lv_icmp_ge hx hb d ht (fun q => kt q H locs ls hH hL hls) (fun q => kf q H locs ls hH hL hls)
theorem a_if_gt (X : ab_X E l G m cc nL own ini ret fr lo mc ms Post) {x : Int32} {off : Int} (tgt : Nat) (d : decode cc pc = .ok (.ifCond .gt off, 3)) (ht : (pc : Int) + off = (tgt : Int)) (kt : 0 < x → ab_R E G m nL ce sl tgt lv st h) (kf : ¬ 0 < x → ab_R E G m nL ce sl (pc + 3) lv st h) : ab_R E G m nL ce sl pc lv (.int x :: st) h := by
  obtain ⟨p, e, s, args, below, meth, c, R, Q, rfl, hQ, hx, hb, hml, hown, hts, hr, hlk, hK, r1, r2, r3, r4, hini⟩ := X
  intro H locs ls hH hL hls
  exact lv_if_gt hx hb d ht (fun q => kt q H locs ls hH hL hls) (fun q => kf q H locs ls hH hL hls)
theorem a_icmp_gt (X : ab_X E l G m cc nL own ini ret fr lo mc ms Post) {x y : Int32} {off : Int} (tgt : Nat) (d : decode cc pc = .ok (.if_icmp .gt off, 3)) (ht : (pc : Int) + off = (tgt : Int)) (kt : y < x → ab_R E G m nL ce sl tgt lv st h) (kf : ¬ y < x → ab_R E G m nL ce sl (pc + 3) lv st h) : ab_R E G m nL ce sl pc lv (.int y :: .int x :: st) h := by
  obtain ⟨p, e, s, args, below, meth, c, R, Q, rfl, hQ, hx, hb, hml, hown, hts, hr, hlk, hK, r1, r2, r3, r4, hini⟩ := X
  intro H locs ls hH hL hls
  exact lv_icmp_gt hx hb d ht (fun q => kt q H locs ls hH hL hls) (fun q => kf q H locs ls hH hL hls)
theorem a_if_le (X : ab_X E l G m cc nL own ini ret fr lo mc ms Post) {x : Int32} {off : Int} (tgt : Nat) (d : decode cc pc = .ok (.ifCond .le off, 3)) (ht : (pc : Int) + off = (tgt : Int)) (kt : x ≤ 0 → ab_R E G m nL ce sl tgt lv st h) (kf : ¬ x ≤ 0 → ab_R E G m nL ce sl (pc + 3) lv st h) : ab_R E G m nL ce sl pc lv (.int x :: st) h := by
  obtain ⟨p, e, s, args, below, meth, c, R, Q, rfl, hQ, hx, hb, hml, hown, hts, hr, hlk, hK, r1, r2, r3, r4, hini⟩ := X
  intro H locs ls hH hL hls
  exact lv_if_le hx hb d ht (fun q => kt q H locs ls hH hL hls) (fun q => kf q H locs ls hH hL hls)
theorem a_icmp_le (X : ab_X E l G m cc nL own ini ret fr lo mc ms Post) {x y : Int32} {off : Int} (tgt : Nat) (d : decode cc pc = .ok (.if_icmp .le off, 3)) (ht : (pc : Int) + off = (tgt : Int)) (kt : x ≤ y → ab_R E G m nL ce sl tgt lv st h) (kf : ¬ x ≤ y → ab_R E G m nL ce sl (pc + 3) lv st h) : ab_R E G m nL ce sl pc lv (.int y :: .int x :: st) h := by
  obtain ⟨p, e, s, args, below, meth, c, R, Q, rfl, hQ, hx, hb, hml, hown, hts, hr, hlk, hK, r1, r2, r3, r4, hini⟩ := X
  intro H locs ls hH hL hls
  exact lv_icmp_le hx hb d ht (fun q => kt q H locs ls hH hL hls) (fun q => kf q H locs ls hH hL hls)
theorem a_goto (X : ab_X E l G m cc nL own ini ret fr lo mc ms Post) {off : Int} (tgt : Nat) (d : decode cc pc = .ok (.goto off, 3)) (ht : (pc : Int) + off = (tgt : Int)) (kk : ab_R E G m nL ce sl tgt lv st h) : ab_R E G m nL ce sl pc lv st h := by
  obtain ⟨p, e, s, args, below, meth, c, R, Q, rfl, hQ, hx, hb, hml, hown, hts, hr, hlk, hK, r1, r2, r3, r4, hini⟩ := X
  intro H locs ls hH hL hls
  exact lv_goto hx hb d ht (kk H locs ls hH hL hls)
theorem a_ldc (X : ab_X E l G m cc nL own ini ret fr lo mc ms Post) {i : Nat} {v : Int32} (hw : Cond.constant own i v ∈ ab_tbl) (d : decode cc pc = .ok (.ldc i, 2)) (kk : ab_R E G m nL ce sl (pc + 2) lv (.int v :: st) h) : ab_R E G m nL ce sl pc lv st h := by
  obtain ⟨p, e, s, args, below, meth, c, R, Q, rfl, hQ, hx, hb, hml, hown, hts, hr, hlk, hK, r1, r2, r3, r4, hini⟩ := X
  intro H locs ls hH hL hls
  exact W.ldc hx hb hown (hts _ hw) rfl d (kk H locs ls hH hL hls)
theorem a_ldc2 (X : ab_X E l G m cc nL own ini ret fr lo mc ms Post) {i : Nat} {v : Int64} (hw : Cond.constantLong own i v ∈ ab_tbl) (d : decode cc pc = .ok (.ldc2_w i, 3)) (kk : ab_R E G m nL ce sl (pc + 3) lv (.long v :: st) h) : ab_R E G m nL ce sl pc lv st h := by
  obtain ⟨p, e, s, args, below, meth, c, R, Q, rfl, hQ, hx, hb, hml, hown, hts, hr, hlk, hK, r1, r2, r3, r4, hini⟩ := X
  intro H locs ls hH hL hls
  exact W.ldc2 hx hb hown (hts _ hw) rfl d (kk H locs ls hH hL hls)
theorem ab_catS {E : ab_E} (st : List Value) : ((st.map (ab_v E)).map fun v => v.category).sum = (st.map fun v => v.category).sum := by
  rw [List.map_map]
  congr 1
  exact List.map_congr_left fun v _ => ab_cat E v
theorem ab_topi {x y : Int32} (e : x = y) (kk : ab_R E G m nL ce sl pc lv (.int y :: st) h) : ab_R E G m nL ce sl pc lv (.int x :: st) h := e ▸ kk
theorem ab_topl {x y : Int64} (e : x = y) (kk : ab_R E G m nL ce sl pc lv (.long y :: st) h) : ab_R E G m nL ce sl pc lv (.long x :: st) h := e ▸ kk
theorem a_incN (X : ab_X E l G m cc nL own ini ret fr lo mc ms Post) {i k : Nat} (d : decode cc pc = .ok (.iinc i 1, 3)) (hl : lv.lookup i = some (.int (nI k))) (hn : i < nL) (kk : ab_R E G m nL ce sl (pc + 3) (ab_s1 lv i (.int (nI (k + 1)))) st h) : ab_R E G m nL ce sl pc lv st h := a_iinc X d hl (nI_1 k) hn kk
theorem a_decN (X : ab_X E l G m cc nL own ini ret fr lo mc ms Post) {i k : Nat} (d : decode cc pc = .ok (.iinc i (-1), 3)) (hl : lv.lookup i = some (.int (nI (k + 1)))) (hn : i < nL) (kk : ab_R E G m nL ce sl (pc + 3) (ab_s1 lv i (.int (nI k))) st h) : ab_R E G m nL ce sl pc lv st h := a_iinc X d hl (pk_m1 k) hn kk
theorem a_mmax (X : ab_X E l G m cc nL own ini ret fr lo mc ms Post) {i : Nat} {x y : Int32} (hw : Cond.methodLink own i Lib.Math.max.name ∈ ab_tbl) (hw1 : Cond.static Lib.Math.max.name ∈ ab_tbl) (hw2 : Cond.initialized "java/lang/Math" ∈ ab_tbl) (hw3 : Cond.code Lib.Math.max.name Lib.Math.max.code 2 (some .int) ∈ ab_tbl) (d : decode cc pc = .ok (.invokestatic i, 3)) (hfr : 1 ≤ fr) (hlo : (st.map fun v => v.category).sum + 13 ≤ lo) (hce : ce ≤ mc) (hsl : sl ≤ ms) (kk : ab_R E G m nL ce sl (pc + 3) lv (.int (if x < y then y else x) :: st) h) : ab_R E G m nL ce sl pc lv (.int y :: .int x :: st) h := by
  obtain ⟨p, e, s, args, below, meth, c, R, Q, rfl, hQ, hx, hb, hml, hown, hts, hr, hlk, hK, r1, r2, r3, r4, hini⟩ := X
  intro H locs ls hH hL hls
  exact va_mmax hx hb (hml.trans hls.1.symm) hown (hts _ hw) (hts _ hw1) (hts _ hw2) (hts _ hw3) (by rw [r1]; exact hfr) (by rw [ab_catS, r2]; exact hlo) (by rw [r3]; exact hce) (by rw [r4]; exact hsl) d (kk H locs ls hH hL hls)
theorem a_mmin (X : ab_X E l G m cc nL own ini ret fr lo mc ms Post) {i : Nat} {x y : Int32} (hw : Cond.methodLink own i Lib.Math.min.name ∈ ab_tbl) (hw1 : Cond.static Lib.Math.min.name ∈ ab_tbl) (hw2 : Cond.initialized "java/lang/Math" ∈ ab_tbl) (hw3 : Cond.code Lib.Math.min.name Lib.Math.min.code 2 (some .int) ∈ ab_tbl) (d : decode cc pc = .ok (.invokestatic i, 3)) (hfr : 1 ≤ fr) (hlo : (st.map fun v => v.category).sum + 13 ≤ lo) (hce : ce ≤ mc) (hsl : sl ≤ ms) (kk : ab_R E G m nL ce sl (pc + 3) lv (.int (if y < x then y else x) :: st) h) : ab_R E G m nL ce sl pc lv (.int y :: .int x :: st) h := by
  obtain ⟨p, e, s, args, below, meth, c, R, Q, rfl, hQ, hx, hb, hml, hown, hts, hr, hlk, hK, r1, r2, r3, r4, hini⟩ := X
  intro H locs ls hH hL hls
  exact va_mmin hx hb (hml.trans hls.1.symm) hown (hts _ hw) (hts _ hw1) (hts _ hw2) (hts _ hw3) (by rw [r1]; exact hfr) (by rw [ab_catS, r2]; exact hlo) (by rw [r3]; exact hce) (by rw [r4]; exact hsl) d (kk H locs ls hH hL hls)
theorem a_lmax (X : ab_X E l G m cc nL own ini ret fr lo mc ms Post) {i : Nat} {x y : Int64} (hw : Cond.methodLink own i Lib.MathLoose.max_long.x ∈ ab_tbl) (hw1 : Cond.static Lib.MathLoose.max_long.x ∈ ab_tbl) (hw2 : Cond.initialized "java/lang/Math" ∈ ab_tbl) (hw3 : Cond.code Lib.MathLoose.max_long.x Lib.MathLoose.max_long.code 4 (some .long) ∈ ab_tbl) (d : decode cc pc = .ok (.invokestatic i, 3)) (hfr : 1 ≤ fr) (hlo : (st.map fun v => v.category).sum + 15 ≤ lo) (hce : ce ≤ mc) (hsl : sl ≤ ms) (kk : ab_R E G m nL ce sl (pc + 3) lv (.long (if y < x then x else y) :: st) h) : ab_R E G m nL ce sl pc lv (.long y :: .long x :: st) h := by
  obtain ⟨p, e, s, args, below, meth, c, R, Q, rfl, hQ, hx, hb, hml, hown, hts, hr, hlk, hK, r1, r2, r3, r4, hini⟩ := X
  intro H locs ls hH hL hls
  exact va_mmax_long hx hb (hml.trans hls.1.symm) hown (hts _ hw) (hts _ hw1) (hts _ hw2) (hts _ hw3) (by rw [r1]; exact hfr) (by rw [ab_catS, r2]; exact hlo) (by rw [r3]; exact hce) (by rw [r4]; exact hsl) d (kk H locs ls hH hL hls)
theorem a_lmin (X : ab_X E l G m cc nL own ini ret fr lo mc ms Post) {i : Nat} {x y : Int64} (hw : Cond.methodLink own i Lib.MathLoose.min_long.x ∈ ab_tbl) (hw1 : Cond.static Lib.MathLoose.min_long.x ∈ ab_tbl) (hw2 : Cond.initialized "java/lang/Math" ∈ ab_tbl) (hw3 : Cond.code Lib.MathLoose.min_long.x Lib.MathLoose.min_long.code 4 (some .long) ∈ ab_tbl) (d : decode cc pc = .ok (.invokestatic i, 3)) (hfr : 1 ≤ fr) (hlo : (st.map fun v => v.category).sum + 15 ≤ lo) (hce : ce ≤ mc) (hsl : sl ≤ ms) (kk : ab_R E G m nL ce sl (pc + 3) lv (.long (if y < x then y else x) :: st) h) : ab_R E G m nL ce sl pc lv (.long y :: .long x :: st) h := by
  obtain ⟨p, e, s, args, below, meth, c, R, Q, rfl, hQ, hx, hb, hml, hown, hts, hr, hlk, hK, r1, r2, r3, r4, hini⟩ := X
  intro H locs ls hH hL hls
  exact va_mmin_long hx hb (hml.trans hls.1.symm) hown (hts _ hw) (hts _ hw1) (hts _ hw2) (hts _ hw3) (by rw [r1]; exact hfr) (by rw [ab_catS, r2]; exact hlo) (by rw [r3]; exact hce) (by rw [r4]; exact hsl) d (kk H locs ls hH hL hls)
theorem ab_slL {E : ab_E} (av : List Value) : (lg_sl (av.map (ab_v E))).length = (lg_sl av).length := by
  induction av with
  | nil => rfl
  | cons v t ih =>
    show ((if (ab_v E v).category = 2 then [Slot.val (ab_v E v), .second] else [Slot.val (ab_v E v)]) ++ lg_sl (t.map (ab_v E))).length = ((if v.category = 2 then [Slot.val v, .second] else [Slot.val v]) ++ lg_sl t).length
    rw [List.length_append, List.length_append, ih, ab_cat]
    congr 1
    split <;> rfl
theorem ab_args {E : ab_E} (av : List Value) : ∀ i : Nat, lv_args i (av.map (ab_v E)) = ab_l E (lv_args i av) := by
  induction av with
  | nil => intro i; rfl
  | cons v t ih =>
    intro i
    show (i, ab_v E v) :: lv_args (if (ab_v E v).category = 2 then i + 2 else i + 1) (t.map (ab_v E)) = (i, ab_v E v) :: ab_l E (lv_args (if v.category = 2 then i + 2 else i + 1) t)
    rw [ih, ab_cat]
def ab_ix (i : Int32) (j n : Nat) : Prop := ¬ i < 0 ∧ i.toNatClampNeg = j ∧ j < n
theorem ab_ix_nI {j n : Nat} (hj : j < n) (hn : n < 2 ^ 31) : ab_ix (nI j) j n := ⟨nI_pos (by omega), nI_clamp (by omega), hj⟩
theorem ab_ix.in {i : Int32} {j n : Nat} (h : ab_ix i j n) : vp_in i n := fun q => by
  rcases q with q | q
  · exact h.1 q
  · rw [h.2.1] at q
    exact absurd h.2.2 (Nat.not_lt.mpr q)
/-- the k-th field of the class ci, under own's link idx -/
def ab_F (own : String) (idx ci k : Nat) (fin : Bool) (ty : FieldType) : Prop := ∃ (C : String) (T : u_T) (N : Nat) (ty0 : Nat → FieldType), classes[ci]? = some (C, T, N) ∧ k < N ∧ (∀ w ∈ u_ws C T N, w ∈ ab_tbl) ∧ Cond.fieldLink own idx (T k).1 (T k).2.1 (T k).2.2.1 ∈ ab_tbl ∧ (T k).2.2.2 = fin ∧ parseFieldDescriptor (T k).2.2.1 = some ty ∧ (∀ j, j < N → parseFieldDescriptor (T j).2.2.1 = some (ty0 j)) ∧ (∀ a, a < N → ∀ b, b < N → a ≠ b → (T a).2.1 ≠ (T b).2.1)
theorem ab_one {E : ab_E} {h : List ab_C} {H : Heap} {a : Nat} {x : ab_C} (hH : ab_H E h H) (ha : h[a]? = some x) : va_P E.1 classes [(ab_n E + a, ab_c E x)] H := fun j q hq => by
  match j, hq with
  | 0, hq => cases hq; exact hH.2.1 a _ ha
theorem ab_lc {E : ab_E} {locs : List Loc} {a i : Nat} (hL : ∀ q ∈ locs, ab_n E ≤ q.base) : ∀ q ∈ locs ++ [⟨ab_n E + a, i⟩], ab_n E ≤ q.base := fun q hq => by
  rcases List.mem_append.mp hq with g | g
  · exact hL q g
  · rw [List.mem_singleton] at g
    subst g
    show ab_n E ≤ ab_n E + a
    omega
theorem a_get (X : ab_X E l G m cc nL own ini ret fr lo mc ms Post) {i ci k a : Nat} {fin : Bool} {ty : FieldType} {fs : List Value} {v : Value} (hF : ab_F own i ci k fin ty) (d : decode cc pc = .ok (.getfield i, 3)) (ha : h[a]? = some (.inr (ci, fs))) (hv : fs[k]? = some v) (kk : ab_R E G m nL ce sl (pc + 3) lv (v :: st) h) : ab_R E G m nL ce sl pc lv (.ref (a + 1) :: st) h := by
  obtain ⟨p, e, s, args, below, meth, c, R, Q, rfl, hQ, hx, hb, hml, hown, hts, hr, hlk, hK, r1, r2, r3, r4, hini⟩ := X
  obtain ⟨C, T, N, ty0, hc, hk, hin, hw, -⟩ := hF
  intro H locs ls hH hL hls
  exact va_get hx hb hts hin hown hK.va (ab_one hH ha) 0 rfl hc k hk (hts _ hw) (fun _ h => h) (v := ab_v E v) (by rw [List.getElem?_map, hv]; rfl) d (kk H locs ls hH hL hls)
theorem a_put (X : ab_X E l G m cc nL own ini ret fr lo mc ms Post) {i ci k a : Nat} {ty : FieldType} {fs : List Value} {v : Value} (hF : ab_F own i ci k false ty) (d : decode cc pc = .ok (.putfield i, 3)) (ha : h[a]? = some (.inr (ci, fs))) (hl : k < fs.length) (hn : narrow ty (ab_v E v) = ab_v E v) (hfit : fits ty (ab_v E v) = true) (kk : ab_R E G m nL ce sl (pc + 3) lv st (h.set a (.inr (ci, fs.set k v)))) : ab_R E G m nL ce sl pc lv (v :: .ref (a + 1) :: st) h := by
  obtain ⟨p, e, s, args, below, meth, c, R, Q, rfl, hQ, hx, hb, hml, hown, hts, hr, hlk, hK, r1, r2, r3, r4, hini⟩ := X
  obtain ⟨C, T, N, ty0, hc, hk, hin, hw, hfin, hd, hty, hnm⟩ := hF
  intro H locs ls hH hL hls
  have hap := va_apart (own := own) hts hin ty0 hty hnm hK.va hc
  obtain ⟨r, h1, cell, q1, q2, q3, q4⟩ := hH.2.1 a _ ha
  have hr : r = (C, T, N) := Option.some.inj (h1.symm.trans hc)
  subst hr
  obtain ⟨hS, hfc, kC, hkC, hkind⟩ := hK.1 ci _ hc
  obtain ⟨cf, kf, fi, f, hi, hsl⟩ := hS k hk
  have hlay := hts _ (hin _ (u_in_lay hk))
  unfold u_lay at hlay
  rw [if_neg (by rw [hfin]; decide)] at hlay
  have hst := (u_facts hfc hkC (u_lays hts hin hk) hi).1
  have h6 := u_store hfc hkC hkind hlay hi hd hn hfit
  refine W.putK hx hb (f := f) ⟨hown, hts _ hw, ⟨_, _, _, hi⟩, hst⟩ (by rw [q2]; exact h6) q1 q3 (by rw [hsl]; exact k2_hasslot (q4 k hk)) rfl rfl d fun H' e1 e2 e3 => ?_
  rw [hsl] at e1 ⊢
  refine kk H' _ ls (hH.set ?_ e2 e3) (ab_lc hL) hls
  refine ⟨_, hc, t_OB.to (V := updV (vp_V (fs.map (ab_v E))) k (ab_v E v)) ⟨_, e1, q2, q3, t_set q4 hap hk _⟩ (fun j _ => ?_)⟩
  rw [List.map_set]
  exact vp_updV_set (by simpa using hl) _ j
theorem a_putF (X : ab_X E l G m cc nL own true ret fr lo mc ms Post) {i ci k a : Nat} {ty : FieldType} {fs : List Value} {v : Value} (hF : ab_F own i ci k true ty) (hdc : ∀ (C : String) (T : u_T) (N : Nat), classes[ci]? = some (C, T, N) → (T k).1 = own) (d : decode cc pc = .ok (.putfield i, 3)) (ha : h[a]? = some (.inr (ci, fs))) (hl : k < fs.length) (hn : narrow ty (ab_v E v) = ab_v E v) (hfit : fits ty (ab_v E v) = true) (kk : ab_R E G m nL ce sl (pc + 3) lv st (h.set a (.inr (ci, fs.set k v)))) : ab_R E G m nL ce sl pc lv (v :: .ref (a + 1) :: st) h := by
  obtain ⟨p, e, s, args, below, meth, c, R, Q, rfl, hQ, hx, hb, hml, hown, hts, hr, hlk, hK, r1, r2, r3, r4, hini⟩ := X
  obtain ⟨C, T, N, ty0, hc, hk, hin, hw, hfin, hd, hty, hnm⟩ := hF
  have hdecl := hdc C T N hc
  intro H locs ls hH hL hls
  have hap := va_apart (own := own) hts hin ty0 hty hnm hK.va hc
  obtain ⟨r, h1, cell, q1, q2, q3, q4⟩ := hH.2.1 a _ ha
  have hr : r = (C, T, N) := Option.some.inj (h1.symm.trans hc)
  subst hr
  obtain ⟨hS, hfc, kC, hkC, hkind⟩ := hK.1 ci _ hc
  obtain ⟨cf, kf, fi, f, hi, hsl⟩ := hS k hk
  have hlay := hts _ (hin _ (u_in_lay hk))
  unfold u_lay at hlay
  rw [if_pos hfin] at hlay
  have hst := (u_facts hfc hkC (u_lays hts hin hk) hi).1
  have hcf : m.cls = cf := by
    obtain ⟨_, _, c', _, _, _, -, -, hf', -, -, -, hown2, -⟩ := Cond.laysFinal_spec hlay
    have e1 : c' = cf := by have := hi.symm.trans hf'; simp at this; exact this.1.symm
    rw [hdecl] at hown2
    rw [← e1]; exact Option.some.inj (hown.symm.trans hown2)
  have h6 := u_fits hfc hkC hkind (Or.inr hlay) hi hd hn hfit
  refine W.putFinK hx hb hown (hts _ hw) hi hst hcf (hini rfl) (by rw [q2]; exact h6) q1 q3 (by rw [hsl]; exact k2_hasslot (q4 k hk)) rfl rfl d fun H' e1 e2 e3 => ?_
  rw [hsl] at e1 ⊢
  refine kk H' _ ls (hH.set ?_ e2 e3) (ab_lc hL) hls
  refine ⟨_, hc, t_OB.to (V := updV (vp_V (fs.map (ab_v E))) k (ab_v E v)) ⟨_, e1, q2, q3, t_set q4 hap hk _⟩ (fun j _ => ?_)⟩
  rw [List.map_set]
  exact vp_updV_set (by simpa using hl) _ j
theorem a_iald (X : ab_X E l G m cc nL own ini ret fr lo mc ms Post) {t n a j : Nat} {f : Nat → Int32} {i : Int32} (d : decode cc pc = .ok (.iaload, 1)) (ha : h[a]? = some (.inl (t, n, .inl f))) (ht : ab_tys[t]? = some .int) (hin : ab_ix i j n) (kk : ab_R E G m nL ce sl (pc + 1) lv (.int (f j) :: st) h) : ab_R E G m nL ce sl pc lv (.int i :: .ref (a + 1) :: st) h := by
  obtain ⟨p, e, s, args, below, meth, c, R, Q, rfl, hQ, hx, hb, hml, hown, hts, hr, hlk, hK, r1, r2, r3, r4, hini⟩ := X
  intro H locs ls hH hL hls
  exact W.iald (v := .int (f j)) hx hb (hH.2.1 a _ ha) ((hK.2.1 t _ ht).1 n (fun j => .int (f j))) (fun q => by cases q) (by show ¬ (i < 0 ∨ (arrV _ _ _).slots.size ≤ _); rw [arrV_size]; exact hin.in) (by show (arrV _ _ _).slots[_]? = _; rw [hin.2.1]; exact arrV_read _ _ hin.2.2) rfl rfl d (kk H locs ls hH hL hls)
theorem a_lald (X : ab_X E l G m cc nL own ini ret fr lo mc ms Post) {t n a j : Nat} {f : Nat → Int64} {i : Int32} (d : decode cc pc = .ok (.laload, 1)) (ha : h[a]? = some (.inl (t, n, .inr (.inl f)))) (ht : ab_tys[t]? = some .long) (hin : ab_ix i j n) (kk : ab_R E G m nL ce sl (pc + 1) lv (.long (f j) :: st) h) : ab_R E G m nL ce sl pc lv (.int i :: .ref (a + 1) :: st) h := by
  obtain ⟨p, e, s, args, below, meth, c, R, Q, rfl, hQ, hx, hb, hml, hown, hts, hr, hlk, hK, r1, r2, r3, r4, hini⟩ := X
  intro H locs ls hH hL hls
  exact W.lald (v := .long (f j)) hx hb (hH.2.1 a _ ha) ((hK.2.1 t _ ht).1 n (fun j => .long (f j))) (fun q => by cases q) (by show ¬ (i < 0 ∨ (arrV _ _ _).slots.size ≤ _); rw [arrV_size]; exact hin.in) (by show (arrV _ _ _).slots[_]? = _; rw [hin.2.1]; exact arrV_read _ _ hin.2.2) rfl rfl d (kk H locs ls hH hL hls)
theorem a_aald (X : ab_X E l G m cc nL own ini ret fr lo mc ms Post) {t n a j r : Nat} {ty : FieldType} {f : Nat → Option Nat} {i : Int32} (d : decode cc pc = .ok (.aaload, 1)) (ha : h[a]? = some (.inl (t, n, .inr (.inr (.inr (.inr f)))))) (ht : ab_tys[t]? = some ty) (hty : ty.isReference = true) (hin : ab_ix i j n) (hf : f j = some r) (kk : ab_R E G m nL ce sl (pc + 1) lv (.ref r :: st) h) : ab_R E G m nL ce sl pc lv (.int i :: .ref (a + 1) :: st) h := by
  obtain ⟨p, e, s, args, below, meth, c, R, Q, rfl, hQ, hx, hb, hml, hown, hts, hr, hlk, hK, r1, r2, r3, r4, hini⟩ := X
  intro H locs ls hH hL hls
  refine W.aald (v := .ref (ab_ad E r)) (ty := ty) hx hb (hH.2.1 a _ ha) ((hK.2.1 t _ ht).1 n (fun j => va_rf ((f j).map (ab_ad E)))) hty (fun q => by cases q) (by show ¬ (i < 0 ∨ (arrV _ _ _).slots.size ≤ _); rw [arrV_size]; exact hin.in) (by show (arrV _ _ _).slots[_]? = _; rw [hin.2.1]; refine (arrV_read _ _ hin.2.2).trans ?_; show some (va_rf ((f j).map (ab_ad E))) = _; rw [hf]; rfl) rfl rfl d (kk H locs ls hH hL hls)
theorem a_iast (X : ab_X E l G m cc nL own ini ret fr lo mc ms Post) {t n a j : Nat} {f : Nat → Int32} {i x : Int32} (d : decode cc pc = .ok (.iastore, 1)) (ha : h[a]? = some (.inl (t, n, .inl f))) (ht : ab_tys[t]? = some .int) (hin : ab_ix i j n) (kk : ab_R E G m nL ce sl (pc + 1) lv st (h.set a (.inl (t, n, .inl (upd f j x))))) : ab_R E G m nL ce sl pc lv (.int x :: .int i :: .ref (a + 1) :: st) h := by
  obtain ⟨p, e, s, args, below, meth, c, R, Q, rfl, hQ, hx, hb, hml, hown, hts, hr, hlk, hK, r1, r2, r3, r4, hini⟩ := X
  intro H locs ls hH hL hls
  refine W.iast hx hb (hH.2.1 a _ ha) ((hK.2.1 t _ ht).1 n (fun j => .int (f j))) (fun q => by cases q) (by show ¬ (i < 0 ∨ (arrV _ _ _).slots.size ≤ _); rw [arrV_size]; exact hin.in) rfl rfl d fun H1 e z oq => ?_
  refine kk H1 _ ls (hH.set ?_ z oq) (ab_lc hL) hls
  show H1[_]? = some (vp_cell _ _)
  rw [e]
  show some ((arrV (E.2.1 t) n (fun j => .int (f j))).setSlot _ _) = some (arrV (E.2.1 t) n (fun i => .int (upd f j x i)))
  rw [arrV_store, hin.2.1]
  congr 2
  funext q
  by_cases hq : q = j
  · subst hq
    simp [updV, upd]
  · simp [updV, upd, hq]
theorem a_last (X : ab_X E l G m cc nL own ini ret fr lo mc ms Post) {t n a j : Nat} {f : Nat → Int64} {i : Int32} {x : Int64} (d : decode cc pc = .ok (.lastore, 1)) (ha : h[a]? = some (.inl (t, n, .inr (.inl f)))) (ht : ab_tys[t]? = some .long) (hin : ab_ix i j n) (kk : ab_R E G m nL ce sl (pc + 1) lv st (h.set a (.inl (t, n, .inr (.inl (vp_updL f j x)))))) : ab_R E G m nL ce sl pc lv (.long x :: .int i :: .ref (a + 1) :: st) h := by
  obtain ⟨p, e, s, args, below, meth, c, R, Q, rfl, hQ, hx, hb, hml, hown, hts, hr, hlk, hK, r1, r2, r3, r4, hini⟩ := X
  intro H locs ls hH hL hls
  refine W.last hx hb (hH.2.1 a _ ha) ((hK.2.1 t _ ht).1 n (fun j => .long (f j))) (fun q => by cases q) (by show ¬ (i < 0 ∨ (arrV _ _ _).slots.size ≤ _); rw [arrV_size]; exact hin.in) rfl rfl d fun H1 e z oq => ?_
  refine kk H1 _ ls (hH.set ?_ z oq) (ab_lc hL) hls
  show H1[_]? = some (vp_cell _ _)
  rw [e]
  show some ((arrV (E.2.1 t) n (fun j => .long (f j))).setSlot _ _) = some (arrV (E.2.1 t) n (fun i => .long (vp_updL f j x i)))
  rw [arrV_store, hin.2.1]
  congr 2
  funext q
  by_cases hq : q = j
  · subst hq
    simp [updV, vp_updL]
  · simp [updV, vp_updL, hq]
theorem a_aast (X : ab_X E l G m cc nL own ini ret fr lo mc ms Post) {t n a b j ci : Nat} {r : vw_C} {fs : List Value} {f : Nat → Option Nat} {i : Int32} (d : decode cc pc = .ok (.aastore, 1)) (ha : h[a]? = some (.inl (t, n, .inr (.inr (.inr (.inr f)))))) (hb0 : h[b]? = some (.inr (ci, fs))) (hc : classes[ci]? = some r) (ht : ab_tys[t]? = some (.object r.1)) (hin : ab_ix i j n) (kk : ab_R E G m nL ce sl (pc + 1) lv st (h.set a (.inl (t, n, .inr (.inr (.inr (.inr (va_up f j (some (b + 1))))))))) ) : ab_R E G m nL ce sl pc lv (.ref (b + 1) :: .int i :: .ref (a + 1) :: st) h := by
  obtain ⟨p, e, s, args, below, meth, c, R, Q, rfl, hQ, hx, hb, hml, hown, hts, hr, hlk, hK, r1, r2, r3, r4, hini⟩ := X
  intro H locs ls hH hL hls
  obtain ⟨r', hr', cellV, g1, g2, g3, -⟩ := hH.2.1 b _ hb0
  have hcls := (hK.1 ci r hc).2
  obtain ⟨kA, comp, k1, k2, k3, -⟩ := (hK.2.1 t _ ht).2
  have hcomp : comp = E.1.1 ci := Option.some.inj (k3.symm.trans hcls.1)
  subst hcomp
  obtain ⟨kC, hkC, -⟩ := hcls.2
  refine W.aast hx hb (hH.2.1 a _ ha) (fun q h => by cases h) (fun h => by cases h) k1 k2 rfl hkC ⟨hin.1, by show _ < (arrV _ _ _).slots.size; rw [arrV_size, hin.2.1]; exact hin.2.2⟩ g1 (fun q h => by rw [g3] at h; cases h) (by rw [g2]; exact hkC) (by rw [g2]; exact va_assign hcls) rfl rfl d fun H1 e z oq => ?_
  refine kk H1 _ ls (hH.set ?_ z oq) (ab_lc hL) hls
  show H1[_]? = some (vp_cell _ _)
  rw [e]
  show some ((arrV (E.2.1 t) n (fun j => va_rf ((f j).map (ab_ad E)))).setSlot _ (.ref (ab_n E + b))) = some (arrV (E.2.1 t) n (fun i => va_rf ((va_up f j (some (b + 1)) i).map (ab_ad E))))
  rw [arrV_store, hin.2.1]
  congr 2
  funext q
  by_cases hq : q = j
  · subst hq
    simp [updV, va_up, va_rf, ab_ad]
  · simp [updV, va_up, hq]
theorem a_alen (X : ab_X E l G m cc nL own ini ret fr lo mc ms Post) {t a : Nat} {ty : FieldType} {x : vp_A} (d : decode cc pc = .ok (.arraylength, 1)) (ha : h[a]? = some (.inl (t, x))) (ht : ab_tys[t]? = some ty) (kk : ab_R E G m nL ce sl (pc + 1) lv (.int (nI x.1) :: st) h) : ab_R E G m nL ce sl pc lv (.ref (a + 1) :: st) h := by
  obtain ⟨p, e, s, args, below, meth, c, R, Q, rfl, hQ, hx, hb, hml, hown, hts, hr, hlk, hK, r1, r2, r3, r4, hini⟩ := X
  intro H locs ls hH hL hls
  have hK2 : va_K E.1 classes [(E.2.1 t, ty)] s := ⟨hK.1, fun k q hk => by
    match k, hk with
    | 0, hk => cases hk; exact hK.2.1 t ty ht⟩
  exact va_alen hx hb hK2 (ab_one hH ha) 0 0 rfl rfl (v := nI x.1) rfl d (kk H locs ls hH hL hls)
/-- the script -/
theorem a_sld (X : ab_X E l G m cc nL own ini ret fr lo mc ms Post) {j : Nat} {i : Int32} (d : decode cc pc = .ok (.iaload, 1)) (hin : ab_ix i j E.2.2.2.2.2.1) (kk : ab_R E G m nL ce sl (pc + 1) lv (.int (E.2.2.2.2.2.2 j) :: st) h) : ab_R E G m nL ce sl pc lv (.int i :: .ref 0 :: st) h := by
  obtain ⟨p, e, s, args, below, meth, c, R, Q, rfl, hQ, hx, hb, hml, hown, hts, hr, hlk, hK, r1, r2, r3, r4, hini⟩ := X
  intro H locs ls hH hL hls
  obtain ⟨-, -, -, -, -, -, ⟨scr, h1, h2, h3, h4, h5⟩, h8⟩ := hK
  exact W.iald (v := .int (E.2.2.2.2.2.2 j)) hx hb (by show H[E.2.2.1]? = _; rw [hH.2.2 _ h8]; exact h1) h2 h3 (by rw [h4]; exact hin.in) (by rw [hin.2.1]; exact h5 _ hin.2.2) rfl rfl d (kk H locs ls hH hL hls)
theorem a_slen (X : ab_X E l G m cc nL own ini ret fr lo mc ms Post) (d : decode cc pc = .ok (.arraylength, 1)) (kk : ab_R E G m nL ce sl (pc + 1) lv (.int (nI E.2.2.2.2.2.1) :: st) h) : ab_R E G m nL ce sl pc lv (.ref 0 :: st) h := by
  obtain ⟨p, e, s, args, below, meth, c, R, Q, rfl, hQ, hx, hb, hml, hown, hts, hr, hlk, hK, r1, r2, r3, r4, hini⟩ := X
  intro H locs ls hH hL hls
  obtain ⟨-, -, -, -, -, -, ⟨scr, h1, h2, h3, h4, h5⟩, h8⟩ := hK
  exact W.alen (n := nI E.2.2.2.2.2.1) hx hb (by show H[E.2.2.1]? = _; rw [hH.2.2 _ h8]; exact h1) h2 (by rw [h4]; rfl) rfl rfl d (kk H locs ls hH hL hls)
/-- a new object of the class ci, as own's link idx names it -/
def ab_N (own : String) (idx ci : Nat) (fs : List Value) (N : Nat) : Prop := ∃ (C : String) (T : u_T) (ty0 : Nat → FieldType), classes[ci]? = some (C, T, N) ∧ (∀ w ∈ u_ws C T N, w ∈ ab_tbl) ∧ (∀ j, j < N → parseFieldDescriptor (T j).2.2.1 = some (ty0 j)) ∧ Cond.classLink own idx C ∈ ab_tbl ∧ Cond.instantiable C N ∈ ab_tbl ∧ Cond.initialized C ∈ ab_tbl ∧ (∀ j, j < N → defaultValue (ty0 j) = vp_V fs j) ∧ (∀ v ∈ fs, ∀ k, v ≠ .ref k)
theorem ab_nr {E : ab_E} {fs : List Value} (h : ∀ v ∈ fs, ∀ k, v ≠ .ref k) : fs.map (ab_v E) = fs := by
  refine (List.map_congr_left (g := id) fun v hv => ?_).trans (List.map_id _)
  cases v with
  | ref k => exact absurd rfl (h _ hv k)
  | _ => rfl
theorem a_new (X : ab_X E l G m cc nL own ini ret fr lo mc ms Post) {i ci N : Nat} {fs : List Value} (hN : ab_N own i ci fs N) (d : decode cc pc = .ok (.new i, 3)) (hce : ce + 1 ≤ mc) (hsl : sl + N ≤ ms) (kk : ab_R E G m nL (ce + 1) (sl + N) (pc + 3) lv (.ref (h.length + 1) :: st) (h ++ [.inr (ci, fs)])) : ab_R E G m nL ce sl pc lv st h := by
  obtain ⟨p, e, s, args, below, meth, c, R, Q, rfl, hQ, hx, hb, hml, hown, hts, hr, hlk, hK, r1, r2, r3, r4, hini⟩ := X
  obtain ⟨C, T, ty0, hc, hin, hty, w1, w2, w3, hfs, hnr⟩ := hN
  intro H locs ls hH hL hls
  have hKn := hK.1 ci _ hc
  refine W.newcK hx hb hown (hts _ w1) (hts _ w2) (hts _ w3) rfl d (by rw [r3]; exact hce) (by rw [r4]; exact hsl) hKn.2.1 rfl fun H1 kC hkC e1 z1 o1 => ?_
  have hs := hH.1
  rw [hs] at e1
  have hg := kk H1 locs ls (hH.push (x := .inr (ci, fs)) ⟨_, hc, by rw [ab_nr hnr]; exact (u_born ty0 hts hin hKn hkC e1 hty).to hfs⟩ z1 o1) hL hls
  rw [hs]
  exact hg
theorem a_newa (X : ab_X E l G m cc nL own ini ret fr lo mc ms Post) {t N : Nat} {n : Int32} {aty : ArrayType} {a0 : vp_A} (d : decode cc pc = .ok (.newarray aty, 2)) (hw : Cond.arrayClass (newarray.typeOf aty) ∈ ab_tbl) (ht : ab_tys[t]? = some (newarray.typeOf aty)) (hn : ¬ n < 0) (hN : n.toNatClampNeg = N) (hby : N * componentBytes (newarray.typeOf aty) ≤ 536870912) (ha : ∀ cA : ClassId, vp_cell cA (ab_a E a0) = arrV cA N (fun _ => defaultValue (newarray.typeOf aty))) (hnm : ∀ (U : State) (cA : ClassId), va_RA U cA (newarray.typeOf aty) → U.vm.findClass ("[" ++ (newarray.typeOf aty).toString) = some cA) (hce : ce + 1 ≤ mc) (hsl : sl + N ≤ ms) (kk : ab_R E G m nL (ce + 1) (sl + N) (pc + 2) lv (.ref (h.length + 1) :: st) (h ++ [.inl (t, a0)])) : ab_R E G m nL ce sl pc lv (.int n :: st) h := by
  obtain ⟨p, e, s, args, below, meth, c, R, Q, rfl, hQ, hx, hb, hml, hown, hts, hr, hlk, hK, r1, r2, r3, r4, hini⟩ := X
  intro H locs ls hH hL hls
  refine va_newaK hx hb (hts _ hw) rfl d rfl hn hN hby (by rw [r3]; exact hce) (by rw [r4]; exact hsl) rfl fun H1 cA e1 z1 o1 hAr hNm => ?_
  have hcA : cA = E.2.1 t := Option.some.inj (hNm.symm.trans (hnm _ _ (hK.2.1 t _ ht).2))
  subst hcA
  have hs := hH.1
  rw [hs] at e1
  have hg := kk H1 locs ls (hH.push (x := .inl (t, a0)) (by show H1[_]? = some (vp_cell _ _); rw [e1, ← ha]) z1 o1) hL hls
  rw [hs]
  exact hg
theorem a_newq (X : ab_X E l G m cc nL own ini ret fr lo mc ms Post) {i t N : Nat} {n : Int32} {C : String} (d : decode cc pc = .ok (.anewarray i, 3)) (hw : Cond.classLink own i C ∈ ab_tbl) (hao : C ∈ ab_ao) (ht : ab_tys[t]? = some (.object C)) (hn : ¬ n < 0) (hN : n.toNatClampNeg = N) (hby : N * 4 ≤ 536870912) (hce : ce + 1 ≤ mc) (hsl : sl + N ≤ ms) (kk : ab_R E G m nL (ce + 1) (sl + N) (pc + 3) lv (.ref (h.length + 1) :: st) (h ++ [.inl (t, N, .inr (.inr (.inr (.inr (fun _ => none)))))])) : ab_R E G m nL ce sl pc lv (.int n :: st) h := by
  obtain ⟨p, e, s, args, below, meth, c, R, Q, rfl, hQ, hx, hb, hml, hown, hts, hr, hlk, hK, r1, r2, r3, r4, hini⟩ := X
  intro H locs ls hH hL hls
  subst hN
  refine W.anew hx hb hown (hts _ hw) (va_AO.use (hK.2.2.2.2.1 C hao)) rfl d rfl hn hby (by rw [r3]; exact hce) (by rw [r4]; exact hsl) fun cA kA comp f1 f2 f3 f4 => ?_
  obtain ⟨-, -, -, -, -, hNm⟩ := (hK.2.1 t _ ht).2
  have hcA : cA = E.2.1 t := Option.some.inj (f1.symm.trans hNm)
  subst hcA
  have hs := hH.1
  refine W.eq (congrArg (fun z => F0 m (pc + 3) ls (.ref z :: st.map (ab_v E))) hs) ?_
  refine kk _ locs ls (hH.push (x := .inl (t, n.toNatClampNeg, .inr (.inr (.inr (.inr (fun _ => none)))))) ?_ (Array.size_push ..) (fun q hq => by rw [Array.getElem?_push, if_neg (Nat.ne_of_lt hq)])) hL hls
  show (Array.push H _)[_]? = some (vp_cell _ _)
  rw [← hs, Array.getElem?_push_size, arrV_new]
  rfl
theorem ab_outer (c : ClassId) (N h0 : Nat) : ∀ i : Nat, Jvm.Free.Multi.outerC c N h0 i = arrV c N (fun j => va_rf (if j < i then some (h0 + 1 + j) else none))
  | 0 => by
    show ({ cls := c, slots := Array.replicate N .null, vm := .none } : Cell) = _
    rw [arrV_new]
    refine congrArg (arrV c N) (funext fun j => ?_)
    simp [va_rf]
  | i + 1 => by
    show (Jvm.Free.Multi.outerC c N h0 i).setSlot i (.ref (h0 + 1 + i)) = _
    rw [ab_outer c N h0 i, arrV_store]
    refine congrArg (arrV c N) (funext fun j => ?_)
    by_cases e : j = i
    · subst e
      simp [updV, va_rf]
    · by_cases h : j < i
      · simp [updV, e, h, Nat.lt_succ_of_lt h]
      · simp [updV, e, h, show ¬ j < i + 1 by omega]
/-- new T[n][k] -/
theorem a_mna (X : ab_X E l G m cc nL own ini ret fr lo mc ms Post) {i to ti N K : Nat} {n k : Int32} {ty : FieldType} {z : vp_A} (d : decode cc pc = .ok (.multianewarray i 2, 4)) (hw : Cond.classLink own i ("[" ++ (FieldType.array ty).toString) ∈ ab_tbl) (haa : ty ∈ ab_aa) (hwa : Cond.arrayClass ty ∈ ab_tbl) (hto : ab_tys[to]? = some (.array ty)) (hti : ab_tys[ti]? = some ty) (hob : ∀ (U : State) (cA : ClassId), va_RA U cA ty → U.vm.findClass (FieldType.array ty).toString = some cA)
    (hn : ¬ n < 0) (hk : ¬ k < 0) (hN : n.toNatClampNeg = N) (hM : k.toNatClampNeg = K) (hb1 : N * 4 ≤ 536870912) (hb2 : K * componentBytes ty ≤ 536870912) (hb3 : K ≤ 536870912) (hdf : fits ty (defaultValue ty) = true) (hdd : (defaultValue ty).isDefault = true) (hz : ∀ c : ClassId, Jvm.Free.Multi.innerC c K (defaultValue ty) = vp_cell c (ab_a E z)) (hce : ce + (1 + N) ≤ mc) (hsl : sl + (N + N * K) ≤ ms)
    (kk : ab_R E G m nL (ce + 1 + N) (sl + N + N * K) (pc + 4) lv (.ref (h.length + 1) :: st) (h ++ (.inl (to, N, .inr (.inr (.inr (.inr (fun j => if j < N then some (h.length + 2 + j) else none))))) :: List.replicate N (.inl (ti, z))))) : ab_R E G m nL ce sl pc lv (.int k :: .int n :: st) h := by
  obtain ⟨p, e, s, args, below, meth, c, R, Q, rfl, hQ, hx, hb, hml, hown, hts, hr, hlk, hK, r1, r2, r3, r4, hini⟩ := X
  intro H locs ls hH hL hls
  subst hN
  subst hM
  intro T hT Xs
  obtain ⟨vm₁, cA, comp, -, fA, fC, hO, -, X', step⟩ := Xs.multianewarray2F hx hown (hts _ hw) (hK.2.2.2.2.2.1 ty haa) (hts _ hwa) (g := F0 m pc ls (.int k :: .int n :: st.map (ab_v E))) rfl (by rw [hb]; exact d) rfl hn hk hb1 hb2 hb3 hdf hdd (by rw [r3]; exact hce) (by rw [r4]; exact hsl)
  have hcA : cA = E.2.1 to := Option.some.inj (fA.symm.trans (hK.2.1 to _ hto).2)
  have hcp : comp = E.2.1 ti := Option.some.inj (fC.symm.trans (hob _ _ (hK.2.1 ti _ hti).2))
  subst hcA
  subst hcp
  generalize hF : Jvm.Free.Multi.fill (T.setVm vm₁) (E.2.1 to) (E.2.1 ti) n.toNatClampNeg k.toNatClampNeg (defaultValue ty) n.toNatClampNeg = F at X' step
  have hTh : (T.setVm vm₁).heap = H := hT
  obtain ⟨f1, f2, -, -⟩ := Jvm.Free.Multi.fill_facts (T.setVm vm₁) (E.2.1 to) (E.2.1 ti) n.toNatClampNeg k.toNatClampNeg (defaultValue ty) n.toNatClampNeg
  rw [hF, hTh] at f1 f2
  have hold : ∀ x : Nat, x < H.size → F.heap[x]? = H[x]? := fun x hx => by
    have := Jvm.Free.Multi.fill_old (T.setVm vm₁) (E.2.1 to) (E.2.1 ti) n.toNatClampNeg k.toNatClampNeg (defaultValue ty) (a := x) (by rw [hTh]; exact hx) n.toNatClampNeg
    rw [hF, hTh] at this
    exact this
  have hrow : ∀ j : Nat, j < n.toNatClampNeg → F.heap[H.size + 1 + j]? = some (vp_cell (E.2.1 ti) (ab_a E z)) := fun j hj => by
    have := Jvm.Free.Multi.fill_inner (T.setVm vm₁) (E.2.1 to) (E.2.1 ti) n.toNatClampNeg k.toNatClampNeg (defaultValue ty) n.toNatClampNeg j hj
    rw [hF, hTh, hz] at this
    exact this
  have hs := hH.1
  have hat : ∀ (j : Nat) (x : ab_C), ((.inl (to, n.toNatClampNeg, .inr (.inr (.inr (.inr (fun j => if j < n.toNatClampNeg then some (h.length + 2 + j) else none))))) :: List.replicate n.toNatClampNeg (.inl (ti, z))) : List ab_C)[j]? = some x → va_at E.1 classes (ab_n E + (h.length + j), ab_c E x) F.heap := by
    intro j x hx
    match j, hx with
    | 0, hx =>
      cases hx
      show F.heap[ab_n E + h.length]? = some (arrV (E.2.1 to) n.toNatClampNeg (fun j => va_rf ((if j < n.toNatClampNeg then some (h.length + 2 + j) else none : Option Nat).map (ab_ad E))))
      rw [← hs, f2, ab_outer]
      congr 2
      funext j
      by_cases hj : j < n.toNatClampNeg
      · rw [if_pos hj, if_pos hj, hs]
        show Value.ref (ab_n E + h.length + 1 + j) = Value.ref (ab_ad E (h.length + 2 + j))
        rw [show h.length + 2 + j = (h.length + 1 + j) + 1 by omega]
        show Value.ref (ab_n E + h.length + 1 + j) = Value.ref (ab_n E + (h.length + 1 + j))
        rw [show ab_n E + h.length + 1 + j = ab_n E + (h.length + 1 + j) from by omega]
      · rw [if_neg hj, if_neg hj]
        rfl
    | j + 1, hx =>
      have hx : (List.replicate n.toNatClampNeg (Sum.inl (ti, z) : ab_C))[j]? = some x := hx
      rw [List.getElem?_replicate] at hx
      by_cases hj : j < n.toNatClampNeg
      · rw [if_pos hj] at hx
        cases hx
        show F.heap[ab_n E + (h.length + (j + 1))]? = some (vp_cell (E.2.1 ti) (ab_a E z))
        rw [show ab_n E + (h.length + (j + 1)) = H.size + 1 + j by omega]
        exact hrow j hj
      · rw [if_neg hj] at hx
        cases hx
  obtain ⟨t, a1, b1⟩ := kk F.heap locs ls (hH.pushes hat (by rw [f1, List.length_cons, List.length_replicate]; omega) hold) hL hls F rfl X'
  refine ⟨t, step t ?_, b1⟩
  have e : T.heap.size = ab_ad E (h.length + 1) := by rw [hT, hs]; rfl
  rw [e]
  exact a1
theorem a_objInit (X : ab_X E l G m cc nL own ini ret fr lo mc ms Post) {i a : Nat} (hw : Cond.methodLink own i objectInit ∈ ab_tbl) (hw1 : Cond.instanceMethod objectInit ∈ ab_tbl) (hw2 : Cond.code objectInit ⟨#[0xb1]⟩ 1 none ∈ ab_tbl) (d : decode cc pc = .ok (.invokespecial i, 3)) (hfr : 1 ≤ fr) (hlo : (st.map fun v => v.category).sum + 12 ≤ lo) (kk : ab_R E G m nL ce sl (pc + 3) lv st h) : ab_R E G m nL ce sl pc lv (.ref a :: st) h := by
  obtain ⟨p, e, s, args, below, meth, c, R, Q, rfl, hQ, hx, hb, hml, hown, hts, hr, hlk, hK, r1, r2, r3, r4, hini⟩ := X
  intro H locs ls hH hL hls
  refine W.objInit hx hb hown (hts _ hw) (hts _ hw1) (hts _ hw2) rfl (by rw [hml]; exact hls.1) rfl d (by omega) ?_ (kk H locs ls hH hL hls)
  rw [ab_catS, r2]
  show 2 * 0 + _ + 12 ≤ lo
  omega
theorem a_iret {P : Option Value → List ab_C → Prop} (X : ab_X E l G m cc nL own ini (some .int) fr lo mc ms (some P)) {v : Int32} (d : decode cc pc = .ok (.ireturn, 1)) (hce : ce ≤ mc) (hsl : sl ≤ ms) (hq : P (some (.int v)) h) : ab_R E G m nL ce sl pc lv [.int v] h := by
  obtain ⟨p, e, s, args, below, meth, c, R, Q, rfl, hQ, hx, hb, hml, hown, hts, hr, hlk, hK, r1, r2, r3, r4, hini⟩ := X
  intro H locs ls hH hL hls
  obtain rfl := hQ P rfl
  exact W.widen hce hsl (W.iret hx hb hr (fun t ht _ => ⟨some (.int v), h, rfl, hq, ht ▸ hH⟩) hL d hlk)
theorem a_zret {P : Option Value → List ab_C → Prop} {ty : FieldType} (X : ab_X E l G m cc nL own ini (some ty) fr lo mc ms (some P)) {v : Int32} (hn : narrow ty (.int v) = .int v) (d : decode cc pc = .ok (.ireturn, 1)) (hce : ce ≤ mc) (hsl : sl ≤ ms) (hq : P (some (.int v)) h) : ab_R E G m nL ce sl pc lv [.int v] h := by
  obtain ⟨p, e, s, args, below, meth, c, R, Q, rfl, hQ, hx, hb, hml, hown, hts, hr, hlk, hK, r1, r2, r3, r4, hini⟩ := X
  intro H locs ls hH hL hls
  obtain rfl := hQ P rfl
  exact W.widen hce hsl (W.zret hx hb hr hn (fun t ht _ => ⟨some (.int v), h, rfl, hq, ht ▸ hH⟩) hL d hlk)
theorem a_lret {P : Option Value → List ab_C → Prop} (X : ab_X E l G m cc nL own ini (some .long) fr lo mc ms (some P)) {v : Int64} (d : decode cc pc = .ok (.lreturn, 1)) (hce : ce ≤ mc) (hsl : sl ≤ ms) (hq : P (some (.long v)) h) : ab_R E G m nL ce sl pc lv [.long v] h := by
  obtain ⟨p, e, s, args, below, meth, c, R, Q, rfl, hQ, hx, hb, hml, hown, hts, hr, hlk, hK, r1, r2, r3, r4, hini⟩ := X
  intro H locs ls hH hL hls
  obtain rfl := hQ P rfl
  exact W.widen hce hsl (W.lret hx hb hr (fun t ht _ => ⟨some (.long v), h, rfl, hq, ht ▸ hH⟩) hL d hlk)
theorem a_aret {P : Option Value → List ab_C → Prop} {rt : FieldType} (X : ab_X E l G m cc nL own ini (some rt) fr lo mc ms (some P)) {v : Nat} (hrt : (∃ n, rt = .object n) ∨ ∃ t, rt = .array t) (d : decode cc pc = .ok (.areturn, 1)) (hce : ce ≤ mc) (hsl : sl ≤ ms) (hq : P (some (.ref v)) h) : ab_R E G m nL ce sl pc lv [.ref v] h := by
  obtain ⟨p, e, s, args, below, meth, c, R, Q, rfl, hQ, hx, hb, hml, hown, hts, hr, hlk, hK, r1, r2, r3, r4, hini⟩ := X
  intro H locs ls hH hL hls
  obtain rfl := hQ P rfl
  exact W.widen hce hsl (W.aret hx hb hr hrt (Or.inr ⟨_, rfl⟩) (fun t ht _ => ⟨some (.ref v), h, rfl, hq, ht ▸ hH⟩) hL d hlk)
theorem a_vret {P : Option Value → List ab_C → Prop} (X : ab_X E l G m cc nL own ini none fr lo mc ms (some P)) (d : decode cc pc = .ok (.return_, 1)) (hce : ce ≤ mc) (hsl : sl ≤ ms) (hq : P none h) : ab_R E G m nL ce sl pc lv [] h := by
  obtain ⟨p, e, s, args, below, meth, c, R, Q, rfl, hQ, hx, hb, hml, hown, hts, hr, hlk, hK, r1, r2, r3, r4, hini⟩ := X
  intro H locs ls hH hL hls
  obtain rfl := hQ P rfl
  exact W.widen hce hsl (W.vret hx hb hr (fun t ht _ => ⟨none, h, rfl, hq, ht ▸ hH⟩) hL d hlk)
theorem ab_blind {E : ab_E} {av : List Value} {h : List ab_C} : FrameBlind (ab_P E av h) := fun _ _ _ _ q => ⟨q.1, q.2.1, q.2.2.same rfl⟩
theorem ab_ret {E : ab_E} (r : Option Value) (st : List Value) : (r.map (ab_v E)).toList ++ st.map (ab_v E) = (r.toList ++ st).map (ab_v E) := by cases r <;> rfl
theorem ab_gd {y : MethodName} {bytes : ByteArray} {maxL : Nat} {ret : Option FieldType} (hc : Cond.code y bytes maxL ret ∈ ab_tbl) : GoodIn ab_tbl (.code y bytes maxL ret :: ab_tbl) := fun w hw => by
  rcases List.mem_cons.mp hw with rfl | g
  · exact ab_good _ hc
  · exact ab_good w g
/-- what every call needs of the words: y's code, its class, its number of arguments -/
def ab_B (y : MethodName) (bytes : ByteArray) (maxL : Nat) (ret : Option FieldType) (n : Nat) : Prop := Cond.code y bytes maxL ret ∈ ab_tbl ∧ Cond.initialized y.cls ∈ ab_tbl ∧ (y.cls ≠ "java/lang/invoke/MethodHandle" ∧ y.cls ≠ "java/lang/invoke/VarHandle" ∧ (parseMethodDescriptor y.desc).map (fun d => d.parameters.length) = some n)
/-- behind a call -/
theorem ab_after {p : Program} {e : Env} {R : Room} {s : State} {args : Array Value} {below : List Frame} {meth : Method} {c : Code} {H : Heap} {locs : List Loc} {ls : Array Slot} {mc1 ms1 : Nat} {st0 : List Value} {a : Array Value} {Q : State → Prop} {P1 : Option Value → List ab_C → Prop}
    (hr : va_Run p l e R s m args below meth c H locs ce sl mc1 ms1 (F0 m pc ls st0) (st.map (ab_v E)) (ab_Q E P1 a) (fun q => ab_n E ≤ q)) (hL : ∀ q ∈ locs, ab_n E ≤ q.base)
    (kk : ∀ (r : Option Value) (h1 : List ab_C), P1 r h1 → ∀ (H1 : Heap) (locs1 : List Loc), ab_H E h1 H1 → (∀ q ∈ locs1, ab_n E ≤ q.base) → W p l e R s m args below meth c H1 locs1 (ce + mc1) (sl + ms1) Q (F0 m (pc + 3) ls ((r.toList ++ st).map (ab_v E)))) : W p l e R s m args below meth c H locs ce sl Q (F0 m pc ls st0) := by
  intro T hT X
  obtain ⟨v, st₀, t, T', L, h0, X', hLL, e1, e2, ⟨r, h1, hv, hp, hh⟩, stp⟩ := hr T hT X
  have hv := Outcome.returned.inj hv
  subst hv
  obtain ⟨t2, a1, b1⟩ := kk r h1 hp T'.heap (locs ++ L) (by rw [e1]; exact hh) (fun q hq => by
    rcases List.mem_append.mp hq with g | g
    · exact hL q g
    · exact hLL q g) T' rfl X'
  rw [← ab_ret] at a1
  exact ⟨t2, stp t2 a1, b1⟩
theorem a_callV (X : ab_X E l G m cc nL own ini ret fr lo mc ms Post) {idx maxL n f1 l1 mc1 ms1 : Nat} {y : MethodName} {bytes : ByteArray} {As stk : List Value} {P1 : Option Value → List ab_C → Prop} {r1t : Option FieldType} {a ci N : Nat} {T : u_T} {fs : List Value} (hrc : h[a]? = some (.inr (ci, fs))) (hcl : classes[ci]? = some (y.cls, T, N)) (hB : ab_B y bytes maxL r1t n) (hw : Cond.methodLink own idx y ∈ ab_tbl) (hw1 : Cond.instanceMethod y ∈ ab_tbl) (hw2 : Cond.selects y.cls y y ∈ ab_tbl) (hC : ab_Con E l y bytes maxL r1t f1 l1 (.ref (a + 1) :: As) h mc1 ms1 P1) (hn : As.length = n) (hstk : stk = As.reverse ++ .ref (a + 1) :: st) (h8 : (st.map fun v => v.category).sum ≤ 8) (hfr : f1 + 1 ≤ fr) (hlo : 19 + maxL + l1 ≤ lo) (hce : ce + mc1 ≤ mc) (hsl : sl + ms1 ≤ ms) (d : decode cc pc = .ok (.invokevirtual idx, 3)) (kk : ∀ (r : Option Value) (h1 : List ab_C), P1 r h1 → ab_R E G m nL (ce + mc1) (sl + ms1) (pc + 3) lv (r.toList ++ st) h1) : ab_R E G m nL ce sl pc lv stk h := by
  obtain ⟨p, e, s, args, below, meth, c, R, Q, rfl, hQ, hx, hb, hml, hown, hts, hr, hlk, hK, r1, r2, r3, r4, hini⟩ := X
  obtain ⟨b1, b2, b3⟩ := hB
  intro H locs ls hH hL hls
  have hR : f1 + 1 ≤ R.frames ∧ 8 + (maxL + 11) + l1 ≤ R.locals := by rw [r1, r2]; omega
  refine ab_after (st := st) (va_runV (Ts := ab_tbl) (own := own) (C := y.cls) (b := ab_n E + a) (As := As.map (ab_v E)) (rest := st.map (ab_v E)) ⟨hx, hb, hml, hown, hts⟩ hC ⟨callB_of (rm := { frames := f1, cells := mc1, slots := ms1, locals := l1 }) n hts (ab_gd b1) rfl rfl rfl (hts _ b2) (hts _ hw) b3 hR, hts _ hw1, hts _ hw2⟩ ⟨ab_blind, va_recv hK.va (ab_one hH hrc) (ci := ci) (q0 := 0) hcl rfl, fun U hU hW => ⟨rfl, by rw [hU]; exact hH, hK.moved hW⟩⟩ rfl (by rw [List.length_map]; exact hn) hls.1 (by rw [hstk]; simp [ab_v, ab_ad]) (by rw [ab_catS]; show 2 * 0 + _ ≤ 8; omega) d (by rw [r3, r4]; exact ⟨hce, hsl⟩)) hL (fun r h1 hp H1 locs1 hH1 hL1 => kk r h1 hp H1 locs1 ls hH1 hL1 hls)
theorem a_callS (X : ab_X E l G m cc nL own ini ret fr lo mc ms Post) {idx maxL n f1 l1 mc1 ms1 : Nat} {y : MethodName} {bytes : ByteArray} {As stk : List Value} {P1 : Option Value → List ab_C → Prop} {r1t : Option FieldType} (hB : ab_B y bytes maxL r1t n) (hw : Cond.methodLink own idx y ∈ ab_tbl) (hw1 : Cond.static y ∈ ab_tbl) (hC : ab_Con E l y bytes maxL r1t f1 l1 As h mc1 ms1 P1) (hn : As.length = n) (hstk : stk = As.reverse ++ st) (h8 : (st.map fun v => v.category).sum ≤ 8) (hfr : f1 + 1 ≤ fr) (hlo : 19 + maxL + l1 ≤ lo) (hce : ce + mc1 ≤ mc) (hsl : sl + ms1 ≤ ms) (d : decode cc pc = .ok (.invokestatic idx, 3)) (kk : ∀ (r : Option Value) (h1 : List ab_C), P1 r h1 → ab_R E G m nL (ce + mc1) (sl + ms1) (pc + 3) lv (r.toList ++ st) h1) : ab_R E G m nL ce sl pc lv stk h := by
  obtain ⟨p, e, s, args, below, meth, c, R, Q, rfl, hQ, hx, hb, hml, hown, hts, hr, hlk, hK, r1, r2, r3, r4, hini⟩ := X
  obtain ⟨b1, b2, b3⟩ := hB
  intro H locs ls hH hL hls
  have hR : f1 + 1 ≤ R.frames ∧ 8 + (maxL + 11) + l1 ≤ R.locals := by rw [r1, r2]; omega
  refine ab_after (st := st) (va_runS (Ts := ab_tbl) (own := own) (As := As.map (ab_v E)) (rest := st.map (ab_v E)) ⟨hx, hb, hml, hown, hts⟩ hC ⟨callB_of (rm := { frames := f1, cells := mc1, slots := ms1, locals := l1 }) n hts (ab_gd b1) rfl rfl rfl (hts _ b2) (hts _ hw) b3 hR, hts _ hw1⟩ ⟨ab_blind, fun U hU hW => ⟨rfl, by rw [hU]; exact hH, hK.moved hW⟩⟩ rfl (by rw [List.length_map]; exact hn) hls.1 (by rw [hstk]; simp [ab_v, ab_ad]) (by rw [ab_catS]; show 2 * 0 + _ ≤ 8; omega) d (by rw [r3, r4]; exact ⟨hce, hsl⟩)) hL (fun r h1 hp H1 locs1 hH1 hL1 => kk r h1 hp H1 locs1 ls hH1 hL1 hls)
theorem a_callI (X : ab_X E l G m cc nL own ini ret fr lo mc ms Post) {idx maxL n f1 l1 mc1 ms1 : Nat} {y : MethodName} {bytes : ByteArray} {As stk : List Value} {P1 : Option Value → List ab_C → Prop} {a : Nat} (hB : ab_B y bytes maxL none n) (hw : Cond.methodLink own idx y ∈ ab_tbl) (hw1 : Cond.instanceMethod y ∈ ab_tbl) (hy : y.name = "<init>") (hC : ab_Con E l y bytes maxL none f1 l1 (.ref (a + 1) :: As) h mc1 ms1 P1) (hn : As.length = n) (hstk : stk = As.reverse ++ .ref (a + 1) :: st) (h8 : (st.map fun v => v.category).sum ≤ 8) (hfr : f1 + 1 ≤ fr) (hlo : 19 + maxL + l1 ≤ lo) (hce : ce + mc1 ≤ mc) (hsl : sl + ms1 ≤ ms) (d : decode cc pc = .ok (.invokespecial idx, 3)) (kk : ∀ (r : Option Value) (h1 : List ab_C), P1 r h1 → ab_R E G m nL (ce + mc1) (sl + ms1) (pc + 3) lv (r.toList ++ st) h1) : ab_R E G m nL ce sl pc lv stk h := by
  obtain ⟨p, e, s, args, below, meth, c, R, Q, rfl, hQ, hx, hb, hml, hown, hts, hr, hlk, hK, r1, r2, r3, r4, hini⟩ := X
  obtain ⟨b1, b2, b3⟩ := hB
  intro H locs ls hH hL hls
  have hR : f1 + 1 ≤ R.frames ∧ 8 + (maxL + 11) + l1 ≤ R.locals := by rw [r1, r2]; omega
  refine ab_after (st := st) (va_runI (Ts := ab_tbl) (own := own) (b := ab_n E + a) (As := As.map (ab_v E)) (rest := st.map (ab_v E)) ⟨hx, hb, hml, hown, hts⟩ hC ⟨callB_of (rm := { frames := f1, cells := mc1, slots := ms1, locals := l1 }) n hts (ab_gd b1) rfl rfl rfl (hts _ b2) (hts _ hw) b3 hR, hy, hts _ hw1⟩ ⟨ab_blind, fun U hU hW => ⟨rfl, by rw [hU]; exact hH, hK.moved hW⟩⟩ rfl (by rw [List.length_map]; exact hn) hls.1 (by rw [hstk]; simp [ab_v, ab_ad]) (by rw [ab_catS]; show 2 * 0 + _ ≤ 8; omega) d (by rw [r3, r4]; exact ⟨hce, hsl⟩)) hL (fun r h1 hp H1 locs1 hH1 hL1 => kk r h1 hp H1 locs1 ls hH1 hL1 hls)
theorem a_callVN (X : ab_X E l G m cc nL own ini ret fr lo mc ms Post) {idx maxL n f1 l1 mc1 ms1 : Nat} {y : MethodName} {bytes : ByteArray} {As stk : List Value} {P1 : Option Value → List ab_C → Prop} {r1t : Option FieldType} {hst : String} {a ci N : Nat} {T : u_T} {fs : List Value} (hrc : h[a]? = some (.inr (ci, fs))) (hcl : classes[ci]? = some (y.cls, T, N)) (hB : ab_B y bytes maxL r1t n) (hw : (own, idx, y, hst) ∈ ab_nm) (hw1 : Cond.instanceMethod y ∈ ab_tbl) (hw2 : Cond.selects y.cls y y ∈ ab_tbl) (hC : ab_Con E l y bytes maxL r1t f1 l1 (.ref (a + 1) :: As) h mc1 ms1 P1) (hn : As.length = n) (hstk : stk = As.reverse ++ .ref (a + 1) :: st) (h8 : (st.map fun v => v.category).sum ≤ 8) (hfr : f1 + 1 ≤ fr) (hlo : 19 + maxL + l1 ≤ lo) (hce : ce + mc1 ≤ mc) (hsl : sl + ms1 ≤ ms) (d : decode cc pc = .ok (.invokevirtual idx, 3)) (kk : ∀ (r : Option Value) (h1 : List ab_C), P1 r h1 → ab_R E G m nL (ce + mc1) (sl + ms1) (pc + 3) lv (r.toList ++ st) h1) : ab_R E G m nL ce sl pc lv stk h := by
  obtain ⟨p, e, s, args, below, meth, c, R, Q, rfl, hQ, hx, hb, hml, hown, hts, hr, hlk, hK, r1, r2, r3, r4, hini⟩ := X
  obtain ⟨b1, b2, b3⟩ := hB
  intro H locs ls hH hL hls
  have hR : f1 + 1 ≤ R.frames ∧ 8 + (maxL + 11) + l1 ≤ R.locals := by rw [r1, r2]; omega
  refine ab_after (st := st) (va_runVN (Ts := ab_tbl) (own := own) (C := y.cls) (b := ab_n E + a) (As := As.map (ab_v E)) (rest := st.map (ab_v E)) ⟨hx, hb, hml, hown, hts⟩ hC ⟨va_cnB (rm := { frames := f1, cells := mc1, slots := ms1, locals := l1 }) n hts (ab_gd b1) rfl rfl rfl (hK.2.2.2.1 _ hw) (hts _ b2) b3 hR, hts _ hw1, hts _ hw2⟩ ⟨ab_blind, va_recv hK.va (ab_one hH hrc) (ci := ci) (q0 := 0) hcl rfl, fun U hU hW => ⟨rfl, by rw [hU]; exact hH, hK.moved hW⟩⟩ rfl (by rw [List.length_map]; exact hn) hls.1 (by rw [hstk]; simp [ab_v, ab_ad]) (by rw [ab_catS]; show 2 * 0 + _ ≤ 8; omega) d (by rw [r3, r4]; exact ⟨hce, hsl⟩)) hL (fun r h1 hp H1 locs1 hH1 hL1 => kk r h1 hp H1 locs1 ls hH1 hL1 hls)
theorem a_callSN (X : ab_X E l G m cc nL own ini ret fr lo mc ms Post) {idx maxL n f1 l1 mc1 ms1 : Nat} {y : MethodName} {bytes : ByteArray} {As stk : List Value} {P1 : Option Value → List ab_C → Prop} {r1t : Option FieldType} {hst : String} (hB : ab_B y bytes maxL r1t n) (hw : (own, idx, y, hst) ∈ ab_nm) (hw1 : Cond.static y ∈ ab_tbl) (hC : ab_Con E l y bytes maxL r1t f1 l1 As h mc1 ms1 P1) (hn : As.length = n) (hstk : stk = As.reverse ++ st) (h8 : (st.map fun v => v.category).sum ≤ 8) (hfr : f1 + 1 ≤ fr) (hlo : 19 + maxL + l1 ≤ lo) (hce : ce + mc1 ≤ mc) (hsl : sl + ms1 ≤ ms) (d : decode cc pc = .ok (.invokestatic idx, 3)) (kk : ∀ (r : Option Value) (h1 : List ab_C), P1 r h1 → ab_R E G m nL (ce + mc1) (sl + ms1) (pc + 3) lv (r.toList ++ st) h1) : ab_R E G m nL ce sl pc lv stk h := by
  obtain ⟨p, e, s, args, below, meth, c, R, Q, rfl, hQ, hx, hb, hml, hown, hts, hr, hlk, hK, r1, r2, r3, r4, hini⟩ := X
  obtain ⟨b1, b2, b3⟩ := hB
  intro H locs ls hH hL hls
  have hR : f1 + 1 ≤ R.frames ∧ 8 + (maxL + 11) + l1 ≤ R.locals := by rw [r1, r2]; omega
  refine ab_after (st := st) (va_runSN (Ts := ab_tbl) (own := own) (As := As.map (ab_v E)) (rest := st.map (ab_v E)) ⟨hx, hb, hml, hown, hts⟩ hC ⟨va_cnB (rm := { frames := f1, cells := mc1, slots := ms1, locals := l1 }) n hts (ab_gd b1) rfl rfl rfl (hK.2.2.2.1 _ hw) (hts _ b2) b3 hR, hts _ hw1, trivial⟩ ⟨ab_blind, fun U hU hW => ⟨rfl, by rw [hU]; exact hH, hK.moved hW⟩⟩ rfl (by rw [List.length_map]; exact hn) hls.1 (by rw [hstk]; simp [ab_v, ab_ad]) (by rw [ab_catS]; show 2 * 0 + _ ≤ 8; omega) d (by rw [r3, r4]; exact ⟨hce, hsl⟩)) hL (fun r h1 hp H1 locs1 hH1 hL1 => kk r h1 hp H1 locs1 ls hH1 hL1 hls)
theorem a_callIN (X : ab_X E l G m cc nL own ini ret fr lo mc ms Post) {idx maxL n f1 l1 mc1 ms1 : Nat} {y : MethodName} {bytes : ByteArray} {As stk : List Value} {P1 : Option Value → List ab_C → Prop} {hst : String} {a : Nat} (hB : ab_B y bytes maxL none n) (hw : (own, idx, y, hst) ∈ ab_nm) (hw1 : Cond.instanceMethod y ∈ ab_tbl) (hy : y.name = "<init>") (hC : ab_Con E l y bytes maxL none f1 l1 (.ref (a + 1) :: As) h mc1 ms1 P1) (hn : As.length = n) (hstk : stk = As.reverse ++ .ref (a + 1) :: st) (h8 : (st.map fun v => v.category).sum ≤ 8) (hfr : f1 + 1 ≤ fr) (hlo : 19 + maxL + l1 ≤ lo) (hce : ce + mc1 ≤ mc) (hsl : sl + ms1 ≤ ms) (d : decode cc pc = .ok (.invokespecial idx, 3)) (kk : ∀ (r : Option Value) (h1 : List ab_C), P1 r h1 → ab_R E G m nL (ce + mc1) (sl + ms1) (pc + 3) lv (r.toList ++ st) h1) : ab_R E G m nL ce sl pc lv stk h := by
  obtain ⟨p, e, s, args, below, meth, c, R, Q, rfl, hQ, hx, hb, hml, hown, hts, hr, hlk, hK, r1, r2, r3, r4, hini⟩ := X
  obtain ⟨b1, b2, b3⟩ := hB
  intro H locs ls hH hL hls
  have hR : f1 + 1 ≤ R.frames ∧ 8 + (maxL + 11) + l1 ≤ R.locals := by rw [r1, r2]; omega
  refine ab_after (st := st) (va_runIN (Ts := ab_tbl) (own := own) (b := ab_n E + a) (As := As.map (ab_v E)) (rest := st.map (ab_v E)) ⟨hx, hb, hml, hown, hts⟩ hC ⟨va_cnB (rm := { frames := f1, cells := mc1, slots := ms1, locals := l1 }) n hts (ab_gd b1) rfl rfl rfl (hK.2.2.2.1 _ hw) (hts _ b2) b3 hR, hy, hts _ hw1⟩ ⟨ab_blind, fun U hU hW => ⟨rfl, by rw [hU]; exact hH, hK.moved hW⟩⟩ rfl (by rw [List.length_map]; exact hn) hls.1 (by rw [hstk]; simp [ab_v, ab_ad]) (by rw [ab_catS]; show 2 * 0 + _ ≤ 8; omega) d (by rw [r3, r4]; exact ⟨hce, hsl⟩)) hL (fun r h1 hp H1 locs1 hH1 hL1 => kk r h1 hp H1 locs1 ls hH1 hL1 hls)
/-- a contract out of a walk from the method's entry -/
theorem ab_con {y : MethodName} {av : List Value} {P : Option Value → List ab_C → Prop} (hy : plainName y.cls = true) (hini : ini = true → y.name = "<init>") (ho : y.cls = own) (hlen : (lg_sl av).length ≤ nL)
    (body : ∀ (G : Heap → List Loc → Nat → Nat → JFrame → Prop) (m : MethodId), ab_X E l G m cc nL own ini ret fr lo mc ms (some P) → ab_R E G m nL 0 0 0 (lv_args 0 av) [] h) : ab_Con E l y cc nL ret fr lo av h mc ms P := by
  refine Met.ofW (cc := cc) (maxL := nL) (ret := ret) hy rfl ?_
  intro p e s m args below meth c s₁ B hml hv
  obtain ⟨rfl, hH, hK⟩ := hv
  have hts : ∀ w ∈ (Cond.code y cc nL ret :: ab_tbl), w.before (av.map (ab_v E)).toArray s = true := atoms_spec (ws := Cond.code y cc nL ret :: ab_tbl) B.pre
  have hown : s.vm.findClass own = some m.cls := by rw [← ho]; exact findClass_of_methodNamed B.named
  have hX : ab_X E l _ m cc nL own ini ret fr lo mc ms (some P) := ⟨p, e, s, _, below, meth, c, { frames := fr, cells := mc, slots := ms, locals := lo }, _, rfl, fun _ hP => by cases hP; rfl, B.exec, B.bytes, hml, hown, fun w hw => hts w (List.mem_cons_of_mem _ hw), B.returns, B.notSynchronized, hK, rfl, rfl, rfl, rfl, fun hi => ((name_of_methodNamed B.named B.method).1).trans (hini hi)⟩
  have hR := body _ m hX
  have hl := lv_entry (av.map (ab_v E)) (n := nL) (by rw [ab_slL]; exact hlen)
  rw [lg_entry_eq]
  rw [ab_args] at hl
  exact hR s.heap [] _ hH (fun q hq => by cases hq) hl
end ABR
end
section
/-! links: by program out of the Statement: fields, calls, constants under the numbers that the code names them by -/
def ab_CL (ci : Nat) (C : String) (T : u_T) (N : Nat) (ty0 : Nat → FieldType) : Prop := classes[ci]? = some (C, T, N) ∧ (∀ w ∈ u_ws C T N, w ∈ ab_tbl) ∧ (∀ j, j < N → parseFieldDescriptor (T j).2.2.1 = some (ty0 j)) ∧ (∀ a, a < N → ∀ b, b < N → a ≠ b → (T a).2.1 ≠ (T b).2.1)
theorem ab_F_mk {own C : String} {idx ci k N : Nat} {T : u_T} {ty0 : Nat → FieldType} {fin : Bool} {ty : FieldType} (h : ab_CL ci C T N ty0) (hk : k < N) (hl : Cond.fieldLink own idx (T k).1 (T k).2.1 (T k).2.2.1 ∈ ab_tbl) (hf : (T k).2.2.2 = fin) (ht : parseFieldDescriptor (T k).2.2.1 = some ty) : ab_F own idx ci k fin ty := ⟨C, T, N, ty0, h.1, hk, h.2.1, hl, hf, ht, h.2.2.1, h.2.2.2⟩
theorem cl_H : ab_CL 0 "HiddenRows" F_H 8 t_H := ⟨rfl, List.forall_mem_cons.mpr ⟨(ab_mem (List.mem_append_right _ (List.mem_of_getElem? (i := 270) rfl)) rfl), List.forall_mem_cons.mpr ⟨(ab_mem (List.mem_append_right _ (List.mem_of_getElem? (i := 272) rfl)) rfl), List.forall_mem_cons.mpr ⟨(ab_mem (List.mem_append_right _ (List.mem_of_getElem? (i := 274) rfl)) rfl), List.forall_mem_cons.mpr ⟨(ab_mem (List.mem_append_right _ (List.mem_of_getElem? (i := 276) rfl)) rfl), List.forall_mem_cons.mpr ⟨(ab_mem (List.mem_append_right _ (List.mem_of_getElem? (i := 278) rfl)) rfl), List.forall_mem_cons.mpr ⟨(ab_mem (List.mem_append_right _ (List.mem_of_getElem? (i := 280) rfl)) rfl), List.forall_mem_cons.mpr ⟨(ab_mem (List.mem_append_right _ (List.mem_of_getElem? (i := 282) rfl)) rfl), List.forall_mem_cons.mpr ⟨(ab_mem (List.mem_append_right _ (List.mem_of_getElem? (i := 284) rfl)) rfl), fun _ h => absurd h List.not_mem_nil⟩⟩⟩⟩⟩⟩⟩⟩, by decide +kernel, by decide +kernel⟩
theorem cl_Ro : ab_CL 1 "HiddenRows$Row" F_Ro 3 t_Ro := ⟨rfl, List.forall_mem_cons.mpr ⟨(ab_mem (List.mem_append_right _ (List.mem_of_getElem? (i := 38) rfl)) rfl), List.forall_mem_cons.mpr ⟨(ab_mem (List.mem_append_right _ (List.mem_of_getElem? (i := 40) rfl)) rfl), List.forall_mem_cons.mpr ⟨(ab_mem (List.mem_append_right _ (List.mem_of_getElem? (i := 42) rfl)) rfl), fun _ h => absurd h List.not_mem_nil⟩⟩⟩, by decide +kernel, by decide +kernel⟩
theorem cl_St : ab_CL 2 "HiddenRows$States" F_St 3 t_St := ⟨rfl, List.forall_mem_cons.mpr ⟨(ab_mem (List.mem_append_right _ (List.mem_of_getElem? (i := 69) rfl)) rfl), List.forall_mem_cons.mpr ⟨(ab_mem (List.mem_append_right _ (List.mem_of_getElem? (i := 71) rfl)) rfl), List.forall_mem_cons.mpr ⟨(ab_mem (List.mem_append_right _ (List.mem_of_getElem? (i := 73) rfl)) rfl), fun _ h => absurd h List.not_mem_nil⟩⟩⟩, by decide +kernel, by decide +kernel⟩
theorem cl_Ws : ab_CL 3 "HiddenRows$WaySums" F_Ws 9 t_Ws := ⟨rfl, List.forall_mem_cons.mpr ⟨(ab_mem (List.mem_append_right _ (List.mem_of_getElem? (i := 96) rfl)) rfl), List.forall_mem_cons.mpr ⟨(ab_mem (List.mem_append_right _ (List.mem_of_getElem? (i := 98) rfl)) rfl), List.forall_mem_cons.mpr ⟨(ab_mem (List.mem_append_right _ (List.mem_of_getElem? (i := 100) rfl)) rfl), List.forall_mem_cons.mpr ⟨(ab_mem (List.mem_append_right _ (List.mem_of_getElem? (i := 102) rfl)) rfl), List.forall_mem_cons.mpr ⟨(ab_mem (List.mem_append_right _ (List.mem_of_getElem? (i := 104) rfl)) rfl), List.forall_mem_cons.mpr ⟨(ab_mem (List.mem_append_right _ (List.mem_of_getElem? (i := 106) rfl)) rfl), List.forall_mem_cons.mpr ⟨(ab_mem (List.mem_append_right _ (List.mem_of_getElem? (i := 108) rfl)) rfl), List.forall_mem_cons.mpr ⟨(ab_mem (List.mem_append_right _ (List.mem_of_getElem? (i := 110) rfl)) rfl), List.forall_mem_cons.mpr ⟨(ab_mem (List.mem_append_right _ (List.mem_of_getElem? (i := 112) rfl)) rfl), fun _ h => absurd h List.not_mem_nil⟩⟩⟩⟩⟩⟩⟩⟩⟩, by decide +kernel, by decide +kernel⟩
theorem cl_Bw : ab_CL 4 "HiddenRows$BestWays" F_Bw 6 t_Bw := ⟨rfl, List.forall_mem_cons.mpr ⟨(ab_mem (List.mem_append_right _ (List.mem_of_getElem? (i := 152) rfl)) rfl), List.forall_mem_cons.mpr ⟨(ab_mem (List.mem_append_right _ (List.mem_of_getElem? (i := 154) rfl)) rfl), List.forall_mem_cons.mpr ⟨(ab_mem (List.mem_append_right _ (List.mem_of_getElem? (i := 156) rfl)) rfl), List.forall_mem_cons.mpr ⟨(ab_mem (List.mem_append_right _ (List.mem_of_getElem? (i := 158) rfl)) rfl), List.forall_mem_cons.mpr ⟨(ab_mem (List.mem_append_right _ (List.mem_of_getElem? (i := 160) rfl)) rfl), List.forall_mem_cons.mpr ⟨(ab_mem (List.mem_append_right _ (List.mem_of_getElem? (i := 162) rfl)) rfl), fun _ h => absurd h List.not_mem_nil⟩⟩⟩⟩⟩⟩, by decide +kernel, by decide +kernel⟩
theorem cl_Wl : ab_CL 5 "HiddenRows$WayList" F_Wl 3 t_Wl := ⟨rfl, List.forall_mem_cons.mpr ⟨(ab_mem (List.mem_append_right _ (List.mem_of_getElem? (i := 138) rfl)) rfl), List.forall_mem_cons.mpr ⟨(ab_mem (List.mem_append_right _ (List.mem_of_getElem? (i := 140) rfl)) rfl), List.forall_mem_cons.mpr ⟨(ab_mem (List.mem_append_right _ (List.mem_of_getElem? (i := 142) rfl)) rfl), fun _ h => absurd h List.not_mem_nil⟩⟩⟩, by decide +kernel, by decide +kernel⟩
theorem cl_Dr : ab_CL 6 "HiddenRows$Drawing" F_Dr 9 t_Dr := ⟨rfl, List.forall_mem_cons.mpr ⟨(ab_mem (List.mem_append_right _ (List.mem_of_getElem? (i := 182) rfl)) rfl), List.forall_mem_cons.mpr ⟨(ab_mem (List.mem_append_right _ (List.mem_of_getElem? (i := 184) rfl)) rfl), List.forall_mem_cons.mpr ⟨(ab_mem (List.mem_append_right _ (List.mem_of_getElem? (i := 186) rfl)) rfl), List.forall_mem_cons.mpr ⟨(ab_mem (List.mem_append_right _ (List.mem_of_getElem? (i := 188) rfl)) rfl), List.forall_mem_cons.mpr ⟨(ab_mem (List.mem_append_right _ (List.mem_of_getElem? (i := 190) rfl)) rfl), List.forall_mem_cons.mpr ⟨(ab_mem (List.mem_append_right _ (List.mem_of_getElem? (i := 192) rfl)) rfl), List.forall_mem_cons.mpr ⟨(ab_mem (List.mem_append_right _ (List.mem_of_getElem? (i := 194) rfl)) rfl), List.forall_mem_cons.mpr ⟨(ab_mem (List.mem_append_right _ (List.mem_of_getElem? (i := 196) rfl)) rfl), List.forall_mem_cons.mpr ⟨(ab_mem (List.mem_append_right _ (List.mem_of_getElem? (i := 198) rfl)) rfl), fun _ h => absurd h List.not_mem_nil⟩⟩⟩⟩⟩⟩⟩⟩⟩, by decide +kernel, by decide +kernel⟩
theorem cl_Ki : ab_CL 7 "HiddenRows$Kinds" F_Ki 3 t_Ki := ⟨rfl, List.forall_mem_cons.mpr ⟨(ab_mem (List.mem_append_right _ (List.mem_of_getElem? (i := 216) rfl)) rfl), List.forall_mem_cons.mpr ⟨(ab_mem (List.mem_append_right _ (List.mem_of_getElem? (i := 218) rfl)) rfl), List.forall_mem_cons.mpr ⟨(ab_mem (List.mem_append_right _ (List.mem_of_getElem? (i := 220) rfl)) rfl), fun _ h => absurd h List.not_mem_nil⟩⟩⟩, by decide +kernel, by decide +kernel⟩
theorem cl_Tt : ab_CL 8 "HiddenRows$TreeTables" F_Tt 10 t_Tt := ⟨rfl, List.forall_mem_cons.mpr ⟨(ab_mem (List.mem_append_right _ (List.mem_of_getElem? (i := 241) rfl)) rfl), List.forall_mem_cons.mpr ⟨(ab_mem (List.mem_append_right _ (List.mem_of_getElem? (i := 243) rfl)) rfl), List.forall_mem_cons.mpr ⟨(ab_mem (List.mem_append_right _ (List.mem_of_getElem? (i := 245) rfl)) rfl), List.forall_mem_cons.mpr ⟨(ab_mem (List.mem_append_right _ (List.mem_of_getElem? (i := 247) rfl)) rfl), List.forall_mem_cons.mpr ⟨(ab_mem (List.mem_append_right _ (List.mem_of_getElem? (i := 249) rfl)) rfl), List.forall_mem_cons.mpr ⟨(ab_mem (List.mem_append_right _ (List.mem_of_getElem? (i := 251) rfl)) rfl), List.forall_mem_cons.mpr ⟨(ab_mem (List.mem_append_right _ (List.mem_of_getElem? (i := 253) rfl)) rfl), List.forall_mem_cons.mpr ⟨(ab_mem (List.mem_append_right _ (List.mem_of_getElem? (i := 255) rfl)) rfl), List.forall_mem_cons.mpr ⟨(ab_mem (List.mem_append_right _ (List.mem_of_getElem? (i := 257) rfl)) rfl), List.forall_mem_cons.mpr ⟨(ab_mem (List.mem_append_right _ (List.mem_of_getElem? (i := 259) rfl)) rfl), fun _ h => absurd h List.not_mem_nil⟩⟩⟩⟩⟩⟩⟩⟩⟩⟩, by decide +kernel, by decide +kernel⟩
set_option maxRecDepth 20000 in
theorem cl_Mo : ab_CL 9 "HiddenRowsModel" F_Mo 27 t_Mo := ⟨rfl, List.forall_mem_cons.mpr ⟨(ab_mem (List.mem_append_right _ (List.mem_of_getElem? (i := 664) rfl)) rfl), List.forall_mem_cons.mpr ⟨(ab_mem (List.mem_append_right _ (List.mem_of_getElem? (i := 666) rfl)) rfl), List.forall_mem_cons.mpr ⟨(ab_mem (List.mem_append_right _ (List.mem_of_getElem? (i := 668) rfl)) rfl), List.forall_mem_cons.mpr ⟨(ab_mem (List.mem_append_right _ (List.mem_of_getElem? (i := 670) rfl)) rfl), List.forall_mem_cons.mpr ⟨(ab_mem (List.mem_append_right _ (List.mem_of_getElem? (i := 672) rfl)) rfl), List.forall_mem_cons.mpr ⟨(ab_mem (List.mem_append_right _ (List.mem_of_getElem? (i := 674) rfl)) rfl), List.forall_mem_cons.mpr ⟨(ab_mem (List.mem_append_right _ (List.mem_of_getElem? (i := 676) rfl)) rfl), List.forall_mem_cons.mpr ⟨(ab_mem (List.mem_append_right _ (List.mem_of_getElem? (i := 678) rfl)) rfl), List.forall_mem_cons.mpr ⟨(ab_mem (List.mem_append_right _ (List.mem_of_getElem? (i := 680) rfl)) rfl), List.forall_mem_cons.mpr ⟨(ab_mem (List.mem_append_right _ (List.mem_of_getElem? (i := 682) rfl)) rfl), List.forall_mem_cons.mpr ⟨(ab_mem (List.mem_append_right _ (List.mem_of_getElem? (i := 684) rfl)) rfl), List.forall_mem_cons.mpr ⟨(ab_mem (List.mem_append_right _ (List.mem_of_getElem? (i := 686) rfl)) rfl), List.forall_mem_cons.mpr ⟨(ab_mem (List.mem_append_right _ (List.mem_of_getElem? (i := 688) rfl)) rfl), List.forall_mem_cons.mpr ⟨(ab_mem (List.mem_append_right _ (List.mem_of_getElem? (i := 690) rfl)) rfl), List.forall_mem_cons.mpr ⟨(ab_mem (List.mem_append_right _ (List.mem_of_getElem? (i := 692) rfl)) rfl), List.forall_mem_cons.mpr ⟨(ab_mem (List.mem_append_right _ (List.mem_of_getElem? (i := 694) rfl)) rfl), List.forall_mem_cons.mpr ⟨(ab_mem (List.mem_append_right _ (List.mem_of_getElem? (i := 696) rfl)) rfl), List.forall_mem_cons.mpr ⟨(ab_mem (List.mem_append_right _ (List.mem_of_getElem? (i := 698) rfl)) rfl), List.forall_mem_cons.mpr ⟨(ab_mem (List.mem_append_right _ (List.mem_of_getElem? (i := 700) rfl)) rfl), List.forall_mem_cons.mpr ⟨(ab_mem (List.mem_append_right _ (List.mem_of_getElem? (i := 702) rfl)) rfl), List.forall_mem_cons.mpr ⟨(ab_mem (List.mem_append_right _ (List.mem_of_getElem? (i := 704) rfl)) rfl), List.forall_mem_cons.mpr ⟨(ab_mem (List.mem_append_right _ (List.mem_of_getElem? (i := 706) rfl)) rfl), List.forall_mem_cons.mpr ⟨(ab_mem (List.mem_append_right _ (List.mem_of_getElem? (i := 708) rfl)) rfl), List.forall_mem_cons.mpr ⟨(ab_mem (List.mem_append_right _ (List.mem_of_getElem? (i := 710) rfl)) rfl), List.forall_mem_cons.mpr ⟨(ab_mem (List.mem_append_right _ (List.mem_of_getElem? (i := 712) rfl)) rfl), List.forall_mem_cons.mpr ⟨(ab_mem (List.mem_append_right _ (List.mem_of_getElem? (i := 714) rfl)) rfl), List.forall_mem_cons.mpr ⟨(ab_mem (List.mem_append_right _ (List.mem_of_getElem? (i := 716) rfl)) rfl), fun _ h => absurd h List.not_mem_nil⟩⟩⟩⟩⟩⟩⟩⟩⟩⟩⟩⟩⟩⟩⟩⟩⟩⟩⟩⟩⟩⟩⟩⟩⟩⟩⟩, by decide +kernel, by decide +kernel⟩
theorem cc_H_9 : Cond.classLink "HiddenRows" 9 "HiddenRows$Row" ∈ ab_tbl := (ab_mem (List.mem_append_right _ (List.mem_of_getElem? (i := 20) rfl)) rfl)
theorem cc_H_16 : Cond.classLink "HiddenRows" 16 "HiddenRows$States" ∈ ab_tbl := (ab_mem (List.mem_append_right _ (List.mem_of_getElem? (i := 46) rfl)) rfl)
theorem cc_H_23 : Cond.classLink "HiddenRows" 23 "HiddenRows$WaySums" ∈ ab_tbl := (ab_mem (List.mem_append_right _ (List.mem_of_getElem? (i := 76) rfl)) rfl)
theorem cc_H_38 : Cond.classLink "HiddenRows" 38 "HiddenRows$BestWays" ∈ ab_tbl := (ab_mem (List.mem_append_right _ (List.mem_of_getElem? (i := 116) rfl)) rfl)
theorem cc_H_47 : Cond.classLink "HiddenRows" 47 "HiddenRows$Drawing" ∈ ab_tbl := (ab_mem (List.mem_append_right _ (List.mem_of_getElem? (i := 165) rfl)) rfl)
theorem cc_H_54 : Cond.classLink "HiddenRows" 54 "HiddenRows$Kinds" ∈ ab_tbl := (ab_mem (List.mem_append_right _ (List.mem_of_getElem? (i := 201) rfl)) rfl)
theorem cc_H_61 : Cond.classLink "HiddenRows" 61 "HiddenRows$TreeTables" ∈ ab_tbl := (ab_mem (List.mem_append_right _ (List.mem_of_getElem? (i := 223) rfl)) rfl)
theorem cc_Bw_9 : Cond.classLink "HiddenRows$BestWays" 9 "HiddenRows$WayList" ∈ ab_tbl := (ab_mem (List.mem_append_right _ (List.mem_of_getElem? (i := 122) rfl)) rfl)
theorem cc_Ki_9 : Cond.classLink "HiddenRows$Kinds" 9 "[[I" ∈ ab_tbl := (ab_mem (List.mem_append_right _ (List.mem_of_getElem? (i := 207) rfl)) rfl)
theorem cc_St_9 : Cond.classLink "HiddenRows$States" 9 "[[I" ∈ ab_tbl := (ab_mem (List.mem_append_right _ (List.mem_of_getElem? (i := 52) rfl)) rfl)
theorem cc_Tt_11 : Cond.classLink "HiddenRows$TreeTables" 11 "[[J" ∈ ab_tbl := (ab_mem (List.mem_append_right _ (List.mem_of_getElem? (i := 229) rfl)) rfl)
theorem cc_Ws_9 : Cond.classLink "HiddenRows$WaySums" 9 "[[J" ∈ ab_tbl := (ab_mem (List.mem_append_right _ (List.mem_of_getElem? (i := 83) rfl)) rfl)
theorem cc_La_7 : Cond.classLink "HiddenRowsLaw" 7 "HiddenRows" ∈ ab_tbl := (ab_mem (List.mem_append_right _ (List.mem_of_getElem? (i := 12) rfl)) rfl)
set_option maxRecDepth 20000 in
theorem cc_La_10 : Cond.classLink "HiddenRowsLaw" 10 "HiddenRowsModel" ∈ ab_tbl := (ab_mem (List.mem_append_right _ (List.mem_of_getElem? (i := 631) rfl)) rfl)
theorem ff_H_12 : ab_F "HiddenRows" 12 0 0 true (.object "HiddenRows$Row") := ab_F_mk cl_H (by decide) (ab_mem (List.mem_append_right _ (List.mem_of_getElem? (i := 262) rfl)) rfl) rfl (by decide +kernel)
theorem ff_H_19 : ab_F "HiddenRows" 19 0 1 true (.object "HiddenRows$States") := ab_F_mk cl_H (by decide) (ab_mem (List.mem_append_right _ (List.mem_of_getElem? (i := 263) rfl)) rfl) rfl (by decide +kernel)
theorem ff_H_31 : ab_F "HiddenRows" 31 0 2 true (.object "HiddenRows$WaySums") := ab_F_mk cl_H (by decide) (ab_mem (List.mem_append_right _ (List.mem_of_getElem? (i := 264) rfl)) rfl) rfl (by decide +kernel)
theorem ff_H_35 : ab_F "HiddenRows" 35 0 3 true (.object "HiddenRows$WaySums") := ab_F_mk cl_H (by decide) (ab_mem (List.mem_append_right _ (List.mem_of_getElem? (i := 265) rfl)) rfl) rfl (by decide +kernel)
theorem ff_H_43 : ab_F "HiddenRows" 43 0 4 true (.object "HiddenRows$BestWays") := ab_F_mk cl_H (by decide) (ab_mem (List.mem_append_right _ (List.mem_of_getElem? (i := 266) rfl)) rfl) rfl (by decide +kernel)
theorem ff_H_50 : ab_F "HiddenRows" 50 0 5 true (.object "HiddenRows$Drawing") := ab_F_mk cl_H (by decide) (ab_mem (List.mem_append_right _ (List.mem_of_getElem? (i := 267) rfl)) rfl) rfl (by decide +kernel)
theorem ff_H_57 : ab_F "HiddenRows" 57 0 6 true (.object "HiddenRows$Kinds") := ab_F_mk cl_H (by decide) (ab_mem (List.mem_append_right _ (List.mem_of_getElem? (i := 268) rfl)) rfl) rfl (by decide +kernel)
theorem ff_H_66 : ab_F "HiddenRows" 66 0 7 true (.object "HiddenRows$TreeTables") := ab_F_mk cl_H (by decide) (ab_mem (List.mem_append_right _ (List.mem_of_getElem? (i := 269) rfl)) rfl) rfl (by decide +kernel)
theorem ff_H_70 : ab_F "HiddenRows" 70 2 2 false .int := ab_F_mk cl_St (by decide) (ab_mem (List.mem_append_right _ (List.mem_of_getElem? (i := 65) rfl)) rfl) rfl (by decide +kernel)
theorem ff_H_88 : ab_F "HiddenRows" 88 2 0 true (.array (.array .int)) := ab_F_mk cl_St (by decide) (ab_mem (List.mem_append_right _ (List.mem_of_getElem? (i := 56) rfl)) rfl) rfl (by decide +kernel)
theorem ff_H_92 : ab_F "HiddenRows" 92 2 1 true (.array (.array .int)) := ab_F_mk cl_St (by decide) (ab_mem (List.mem_append_right _ (List.mem_of_getElem? (i := 60) rfl)) rfl) rfl (by decide +kernel)
theorem ff_H_95 : ab_F "HiddenRows" 95 7 2 false .int := ab_F_mk cl_Ki (by decide) (ab_mem (List.mem_append_right _ (List.mem_of_getElem? (i := 214) rfl)) rfl) rfl (by decide +kernel)
theorem ff_H_104 : ab_F "HiddenRows" 104 7 0 true (.array (.array .int)) := ab_F_mk cl_Ki (by decide) (ab_mem (List.mem_append_right _ (List.mem_of_getElem? (i := 209) rfl)) rfl) rfl (by decide +kernel)
theorem ff_H_107 : ab_F "HiddenRows" 107 7 1 true (.array (.array .int)) := ab_F_mk cl_Ki (by decide) (ab_mem (List.mem_append_right _ (List.mem_of_getElem? (i := 212) rfl)) rfl) rfl (by decide +kernel)
theorem ff_H_110 : ab_F "HiddenRows" 110 1 2 false .int := ab_F_mk cl_Ro (by decide) (ab_mem (List.mem_append_right _ (List.mem_of_getElem? (i := 37) rfl)) rfl) rfl (by decide +kernel)
theorem ff_H_118 : ab_F "HiddenRows" 118 1 1 true (.array .int) := ab_F_mk cl_Ro (by decide) (ab_mem (List.mem_append_right _ (List.mem_of_getElem? (i := 31) rfl)) rfl) rfl (by decide +kernel)
theorem ff_H_152 : ab_F "HiddenRows" 152 5 2 false .int := ab_F_mk cl_Wl (by decide) (ab_mem (List.mem_append_right _ (List.mem_of_getElem? (i := 137) rfl)) rfl) rfl (by decide +kernel)
theorem ff_H_157 : ab_F "HiddenRows" 157 5 0 true (.array .long) := ab_F_mk cl_Wl (by decide) (ab_mem (List.mem_append_right _ (List.mem_of_getElem? (i := 131) rfl)) rfl) rfl (by decide +kernel)
theorem ff_H_162 : ab_F "HiddenRows" 162 5 1 true (.array .int) := ab_F_mk cl_Wl (by decide) (ab_mem (List.mem_append_right _ (List.mem_of_getElem? (i := 134) rfl)) rfl) rfl (by decide +kernel)
theorem ff_H_176 : ab_F "HiddenRows" 176 6 8 false .boolean := ab_F_mk cl_Dr (by decide) (ab_mem (List.mem_append_right _ (List.mem_of_getElem? (i := 181) rfl)) rfl) rfl (by decide +kernel)
theorem ff_H_180 : ab_F "HiddenRows" 180 6 7 false .int := ab_F_mk cl_Dr (by decide) (ab_mem (List.mem_append_right _ (List.mem_of_getElem? (i := 179) rfl)) rfl) rfl (by decide +kernel)
theorem ff_H_198 : ab_F "HiddenRows" 198 3 8 false .boolean := ab_F_mk cl_Ws (by decide) (ab_mem (List.mem_append_right _ (List.mem_of_getElem? (i := 95) rfl)) rfl) rfl (by decide +kernel)
theorem ff_H_199 : ab_F "HiddenRows" 199 4 5 false .boolean := ab_F_mk cl_Bw (by decide) (ab_mem (List.mem_append_right _ (List.mem_of_getElem? (i := 151) rfl)) rfl) rfl (by decide +kernel)
theorem ff_H_200 : ab_F "HiddenRows" 200 8 9 false .boolean := ab_F_mk cl_Tt (by decide) (ab_mem (List.mem_append_right _ (List.mem_of_getElem? (i := 240) rfl)) rfl) rfl (by decide +kernel)
theorem ff_Bw_11 : ab_F "HiddenRows$BestWays" 11 4 3 true (.array (.object "HiddenRows$WayList")) := ab_F_mk cl_Bw (by decide) (ab_mem (List.mem_append_right _ (List.mem_of_getElem? (i := 148) rfl)) rfl) rfl (by decide +kernel)
theorem ff_Bw_18 : ab_F "HiddenRows$BestWays" 18 4 4 true (.object "HiddenRows$WayList") := ab_F_mk cl_Bw (by decide) (ab_mem (List.mem_append_right _ (List.mem_of_getElem? (i := 149) rfl)) rfl) rfl (by decide +kernel)
theorem ff_Bw_22 : ab_F "HiddenRows$BestWays" 22 4 5 false .boolean := ab_F_mk cl_Bw (by decide) (ab_mem (List.mem_append_right _ (List.mem_of_getElem? (i := 150) rfl)) rfl) rfl (by decide +kernel)
theorem ff_Bw_26 : ab_F "HiddenRows$BestWays" 26 4 0 true (.object "HiddenRows$Row") := ab_F_mk cl_Bw (by decide) (ab_mem (List.mem_append_right _ (List.mem_of_getElem? (i := 145) rfl)) rfl) rfl (by decide +kernel)
theorem ff_Bw_30 : ab_F "HiddenRows$BestWays" 30 4 1 true (.object "HiddenRows$States") := ab_F_mk cl_Bw (by decide) (ab_mem (List.mem_append_right _ (List.mem_of_getElem? (i := 146) rfl)) rfl) rfl (by decide +kernel)
theorem ff_Bw_34 : ab_F "HiddenRows$BestWays" 34 4 2 true (.object "HiddenRows$WaySums") := ab_F_mk cl_Bw (by decide) (ab_mem (List.mem_append_right _ (List.mem_of_getElem? (i := 147) rfl)) rfl) rfl (by decide +kernel)
theorem ff_Bw_43 : ab_F "HiddenRows$BestWays" 43 1 2 false .int := ab_F_mk cl_Ro (by decide) (ab_mem (List.mem_append_right _ (List.mem_of_getElem? (i := 35) rfl)) rfl) rfl (by decide +kernel)
theorem ff_Bw_49 : ab_F "HiddenRows$BestWays" 49 2 2 false .int := ab_F_mk cl_St (by decide) (ab_mem (List.mem_append_right _ (List.mem_of_getElem? (i := 67) rfl)) rfl) rfl (by decide +kernel)
theorem ff_Bw_61 : ab_F "HiddenRows$BestWays" 61 5 2 false .int := ab_F_mk cl_Wl (by decide) (ab_mem (List.mem_append_right _ (List.mem_of_getElem? (i := 136) rfl)) rfl) rfl (by decide +kernel)
theorem ff_Bw_64 : ab_F "HiddenRows$BestWays" 64 2 0 true (.array (.array .int)) := ab_F_mk cl_St (by decide) (ab_mem (List.mem_append_right _ (List.mem_of_getElem? (i := 55) rfl)) rfl) rfl (by decide +kernel)
theorem ff_Bw_88 : ab_F "HiddenRows$BestWays" 88 2 1 true (.array (.array .int)) := ab_F_mk cl_St (by decide) (ab_mem (List.mem_append_right _ (List.mem_of_getElem? (i := 62) rfl)) rfl) rfl (by decide +kernel)
theorem ff_Bw_91 : ab_F "HiddenRows$BestWays" 91 5 0 true (.array .long) := ab_F_mk cl_Wl (by decide) (ab_mem (List.mem_append_right _ (List.mem_of_getElem? (i := 130) rfl)) rfl) rfl (by decide +kernel)
theorem ff_Bw_94 : ab_F "HiddenRows$BestWays" 94 5 1 true (.array .int) := ab_F_mk cl_Wl (by decide) (ab_mem (List.mem_append_right _ (List.mem_of_getElem? (i := 133) rfl)) rfl) rfl (by decide +kernel)
theorem ff_Dr_9 : ab_F "HiddenRows$Drawing" 9 6 3 false .long := ab_F_mk cl_Dr (by decide) (ab_mem (List.mem_append_right _ (List.mem_of_getElem? (i := 174) rfl)) rfl) rfl (by decide +kernel)
theorem ff_Dr_15 : ab_F "HiddenRows$Drawing" 15 6 4 false .int := ab_F_mk cl_Dr (by decide) (ab_mem (List.mem_append_right _ (List.mem_of_getElem? (i := 175) rfl)) rfl) rfl (by decide +kernel)
theorem ff_Dr_19 : ab_F "HiddenRows$Drawing" 19 6 5 false .int := ab_F_mk cl_Dr (by decide) (ab_mem (List.mem_append_right _ (List.mem_of_getElem? (i := 176) rfl)) rfl) rfl (by decide +kernel)
theorem ff_Dr_22 : ab_F "HiddenRows$Drawing" 22 6 6 false .long := ab_F_mk cl_Dr (by decide) (ab_mem (List.mem_append_right _ (List.mem_of_getElem? (i := 177) rfl)) rfl) rfl (by decide +kernel)
theorem ff_Dr_25 : ab_F "HiddenRows$Drawing" 25 6 7 false .int := ab_F_mk cl_Dr (by decide) (ab_mem (List.mem_append_right _ (List.mem_of_getElem? (i := 178) rfl)) rfl) rfl (by decide +kernel)
theorem ff_Dr_28 : ab_F "HiddenRows$Drawing" 28 6 8 false .boolean := ab_F_mk cl_Dr (by decide) (ab_mem (List.mem_append_right _ (List.mem_of_getElem? (i := 180) rfl)) rfl) rfl (by decide +kernel)
theorem ff_Dr_32 : ab_F "HiddenRows$Drawing" 32 6 0 true (.object "HiddenRows$Row") := ab_F_mk cl_Dr (by decide) (ab_mem (List.mem_append_right _ (List.mem_of_getElem? (i := 171) rfl)) rfl) rfl (by decide +kernel)
theorem ff_Dr_36 : ab_F "HiddenRows$Drawing" 36 6 1 true (.object "HiddenRows$States") := ab_F_mk cl_Dr (by decide) (ab_mem (List.mem_append_right _ (List.mem_of_getElem? (i := 172) rfl)) rfl) rfl (by decide +kernel)
theorem ff_Dr_40 : ab_F "HiddenRows$Drawing" 40 6 2 true (.object "HiddenRows$WaySums") := ab_F_mk cl_Dr (by decide) (ab_mem (List.mem_append_right _ (List.mem_of_getElem? (i := 173) rfl)) rfl) rfl (by decide +kernel)
theorem ff_Dr_53 : ab_F "HiddenRows$Drawing" 53 1 2 false .int := ab_F_mk cl_Ro (by decide) (ab_mem (List.mem_append_right _ (List.mem_of_getElem? (i := 36) rfl)) rfl) rfl (by decide +kernel)
theorem ff_Dr_66 : ab_F "HiddenRows$Drawing" 66 2 0 true (.array (.array .int)) := ab_F_mk cl_St (by decide) (ab_mem (List.mem_append_right _ (List.mem_of_getElem? (i := 57) rfl)) rfl) rfl (by decide +kernel)
theorem ff_Dr_72 : ab_F "HiddenRows$Drawing" 72 2 2 false .int := ab_F_mk cl_St (by decide) (ab_mem (List.mem_append_right _ (List.mem_of_getElem? (i := 68) rfl)) rfl) rfl (by decide +kernel)
theorem ff_Dr_86 : ab_F "HiddenRows$Drawing" 86 3 4 true (.array (.array .long)) := ab_F_mk cl_Ws (by decide) (ab_mem (List.mem_append_right _ (List.mem_of_getElem? (i := 90) rfl)) rfl) rfl (by decide +kernel)
theorem ff_Dr_94 : ab_F "HiddenRows$Drawing" 94 2 1 true (.array (.array .int)) := ab_F_mk cl_St (by decide) (ab_mem (List.mem_append_right _ (List.mem_of_getElem? (i := 63) rfl)) rfl) rfl (by decide +kernel)
theorem ff_Ki_11 : ab_F "HiddenRows$Kinds" 11 7 0 true (.array (.array .int)) := ab_F_mk cl_Ki (by decide) (ab_mem (List.mem_append_right _ (List.mem_of_getElem? (i := 208) rfl)) rfl) rfl (by decide +kernel)
theorem ff_Ki_16 : ab_F "HiddenRows$Kinds" 16 7 1 true (.array (.array .int)) := ab_F_mk cl_Ki (by decide) (ab_mem (List.mem_append_right _ (List.mem_of_getElem? (i := 211) rfl)) rfl) rfl (by decide +kernel)
theorem ff_Ki_19 : ab_F "HiddenRows$Kinds" 19 7 2 false .int := ab_F_mk cl_Ki (by decide) (ab_mem (List.mem_append_right _ (List.mem_of_getElem? (i := 213) rfl)) rfl) rfl (by decide +kernel)
theorem ff_Ro_9 : ab_F "HiddenRows$Row" 9 1 0 true (.array .int) := ab_F_mk cl_Ro (by decide) (ab_mem (List.mem_append_right _ (List.mem_of_getElem? (i := 26) rfl)) rfl) rfl (by decide +kernel)
theorem ff_Ro_15 : ab_F "HiddenRows$Row" 15 1 1 true (.array .int) := ab_F_mk cl_Ro (by decide) (ab_mem (List.mem_append_right _ (List.mem_of_getElem? (i := 29) rfl)) rfl) rfl (by decide +kernel)
theorem ff_Ro_18 : ab_F "HiddenRows$Row" 18 1 2 false .int := ab_F_mk cl_Ro (by decide) (ab_mem (List.mem_append_right _ (List.mem_of_getElem? (i := 32) rfl)) rfl) rfl (by decide +kernel)
theorem ff_St_11 : ab_F "HiddenRows$States" 11 2 0 true (.array (.array .int)) := ab_F_mk cl_St (by decide) (ab_mem (List.mem_append_right _ (List.mem_of_getElem? (i := 54) rfl)) rfl) rfl (by decide +kernel)
theorem ff_St_16 : ab_F "HiddenRows$States" 16 2 1 true (.array (.array .int)) := ab_F_mk cl_St (by decide) (ab_mem (List.mem_append_right _ (List.mem_of_getElem? (i := 59) rfl)) rfl) rfl (by decide +kernel)
theorem ff_St_19 : ab_F "HiddenRows$States" 19 2 2 false .int := ab_F_mk cl_St (by decide) (ab_mem (List.mem_append_right _ (List.mem_of_getElem? (i := 64) rfl)) rfl) rfl (by decide +kernel)
theorem ff_Tt_13 : ab_F "HiddenRows$TreeTables" 13 8 2 true (.array (.array .long)) := ab_F_mk cl_Tt (by decide) (ab_mem (List.mem_append_right _ (List.mem_of_getElem? (i := 232) rfl)) rfl) rfl (by decide +kernel)
theorem ff_Tt_16 : ab_F "HiddenRows$TreeTables" 16 8 3 true (.array (.array .long)) := ab_F_mk cl_Tt (by decide) (ab_mem (List.mem_append_right _ (List.mem_of_getElem? (i := 233) rfl)) rfl) rfl (by decide +kernel)
theorem ff_Tt_19 : ab_F "HiddenRows$TreeTables" 19 8 4 true (.array (.array .long)) := ab_F_mk cl_Tt (by decide) (ab_mem (List.mem_append_right _ (List.mem_of_getElem? (i := 234) rfl)) rfl) rfl (by decide +kernel)
theorem ff_Tt_22 : ab_F "HiddenRows$TreeTables" 22 8 5 true (.array (.array .long)) := ab_F_mk cl_Tt (by decide) (ab_mem (List.mem_append_right _ (List.mem_of_getElem? (i := 235) rfl)) rfl) rfl (by decide +kernel)
theorem ff_Tt_25 : ab_F "HiddenRows$TreeTables" 25 8 6 true (.array .int) := ab_F_mk cl_Tt (by decide) (ab_mem (List.mem_append_right _ (List.mem_of_getElem? (i := 236) rfl)) rfl) rfl (by decide +kernel)
theorem ff_Tt_29 : ab_F "HiddenRows$TreeTables" 29 8 7 true (.array .int) := ab_F_mk cl_Tt (by decide) (ab_mem (List.mem_append_right _ (List.mem_of_getElem? (i := 237) rfl)) rfl) rfl (by decide +kernel)
theorem ff_Tt_32 : ab_F "HiddenRows$TreeTables" 32 8 8 false .int := ab_F_mk cl_Tt (by decide) (ab_mem (List.mem_append_right _ (List.mem_of_getElem? (i := 238) rfl)) rfl) rfl (by decide +kernel)
theorem ff_Tt_36 : ab_F "HiddenRows$TreeTables" 36 8 9 false .boolean := ab_F_mk cl_Tt (by decide) (ab_mem (List.mem_append_right _ (List.mem_of_getElem? (i := 239) rfl)) rfl) rfl (by decide +kernel)
theorem ff_Tt_40 : ab_F "HiddenRows$TreeTables" 40 8 0 true (.object "HiddenRows$Row") := ab_F_mk cl_Tt (by decide) (ab_mem (List.mem_append_right _ (List.mem_of_getElem? (i := 230) rfl)) rfl) rfl (by decide +kernel)
theorem ff_Tt_44 : ab_F "HiddenRows$TreeTables" 44 8 1 true (.object "HiddenRows$Kinds") := ab_F_mk cl_Tt (by decide) (ab_mem (List.mem_append_right _ (List.mem_of_getElem? (i := 231) rfl)) rfl) rfl (by decide +kernel)
theorem ff_Tt_51 : ab_F "HiddenRows$TreeTables" 51 1 2 false .int := ab_F_mk cl_Ro (by decide) (ab_mem (List.mem_append_right _ (List.mem_of_getElem? (i := 33) rfl)) rfl) rfl (by decide +kernel)
theorem ff_Tt_60 : ab_F "HiddenRows$TreeTables" 60 7 2 false .int := ab_F_mk cl_Ki (by decide) (ab_mem (List.mem_append_right _ (List.mem_of_getElem? (i := 215) rfl)) rfl) rfl (by decide +kernel)
theorem ff_Tt_68 : ab_F "HiddenRows$TreeTables" 68 1 0 true (.array .int) := ab_F_mk cl_Ro (by decide) (ab_mem (List.mem_append_right _ (List.mem_of_getElem? (i := 27) rfl)) rfl) rfl (by decide +kernel)
theorem ff_Tt_84 : ab_F "HiddenRows$TreeTables" 84 7 0 true (.array (.array .int)) := ab_F_mk cl_Ki (by decide) (ab_mem (List.mem_append_right _ (List.mem_of_getElem? (i := 210) rfl)) rfl) rfl (by decide +kernel)
theorem ff_Wl_9 : ab_F "HiddenRows$WayList" 9 5 0 true (.array .long) := ab_F_mk cl_Wl (by decide) (ab_mem (List.mem_append_right _ (List.mem_of_getElem? (i := 129) rfl)) rfl) rfl (by decide +kernel)
theorem ff_Wl_15 : ab_F "HiddenRows$WayList" 15 5 1 true (.array .int) := ab_F_mk cl_Wl (by decide) (ab_mem (List.mem_append_right _ (List.mem_of_getElem? (i := 132) rfl)) rfl) rfl (by decide +kernel)
theorem ff_Wl_19 : ab_F "HiddenRows$WayList" 19 5 2 false .int := ab_F_mk cl_Wl (by decide) (ab_mem (List.mem_append_right _ (List.mem_of_getElem? (i := 135) rfl)) rfl) rfl (by decide +kernel)
theorem ff_Ws_11 : ab_F "HiddenRows$WaySums" 11 3 3 true (.array (.array .long)) := ab_F_mk cl_Ws (by decide) (ab_mem (List.mem_append_right _ (List.mem_of_getElem? (i := 88) rfl)) rfl) rfl (by decide +kernel)
theorem ff_Ws_16 : ab_F "HiddenRows$WaySums" 16 3 4 true (.array (.array .long)) := ab_F_mk cl_Ws (by decide) (ab_mem (List.mem_append_right _ (List.mem_of_getElem? (i := 89) rfl)) rfl) rfl (by decide +kernel)
theorem ff_Ws_19 : ab_F "HiddenRows$WaySums" 19 3 5 true (.array (.array .long)) := ab_F_mk cl_Ws (by decide) (ab_mem (List.mem_append_right _ (List.mem_of_getElem? (i := 91) rfl)) rfl) rfl (by decide +kernel)
theorem ff_Ws_22 : ab_F "HiddenRows$WaySums" 22 3 6 true (.array (.array .long)) := ab_F_mk cl_Ws (by decide) (ab_mem (List.mem_append_right _ (List.mem_of_getElem? (i := 92) rfl)) rfl) rfl (by decide +kernel)
theorem ff_Ws_25 : ab_F "HiddenRows$WaySums" 25 3 7 true (.array (.array .long)) := ab_F_mk cl_Ws (by decide) (ab_mem (List.mem_append_right _ (List.mem_of_getElem? (i := 93) rfl)) rfl) rfl (by decide +kernel)
theorem ff_Ws_28 : ab_F "HiddenRows$WaySums" 28 3 8 false .boolean := ab_F_mk cl_Ws (by decide) (ab_mem (List.mem_append_right _ (List.mem_of_getElem? (i := 94) rfl)) rfl) rfl (by decide +kernel)
theorem ff_Ws_32 : ab_F "HiddenRows$WaySums" 32 3 0 true (.object "HiddenRows$Row") := ab_F_mk cl_Ws (by decide) (ab_mem (List.mem_append_right _ (List.mem_of_getElem? (i := 85) rfl)) rfl) rfl (by decide +kernel)
theorem ff_Ws_36 : ab_F "HiddenRows$WaySums" 36 3 1 true (.object "HiddenRows$States") := ab_F_mk cl_Ws (by decide) (ab_mem (List.mem_append_right _ (List.mem_of_getElem? (i := 86) rfl)) rfl) rfl (by decide +kernel)
theorem ff_Ws_40 : ab_F "HiddenRows$WaySums" 40 3 2 true .int := ab_F_mk cl_Ws (by decide) (ab_mem (List.mem_append_right _ (List.mem_of_getElem? (i := 87) rfl)) rfl) rfl (by decide +kernel)
theorem ff_Ws_47 : ab_F "HiddenRows$WaySums" 47 1 2 false .int := ab_F_mk cl_Ro (by decide) (ab_mem (List.mem_append_right _ (List.mem_of_getElem? (i := 34) rfl)) rfl) rfl (by decide +kernel)
theorem ff_Ws_52 : ab_F "HiddenRows$WaySums" 52 2 2 false .int := ab_F_mk cl_St (by decide) (ab_mem (List.mem_append_right _ (List.mem_of_getElem? (i := 66) rfl)) rfl) rfl (by decide +kernel)
theorem ff_Ws_67 : ab_F "HiddenRows$WaySums" 67 2 1 true (.array (.array .int)) := ab_F_mk cl_St (by decide) (ab_mem (List.mem_append_right _ (List.mem_of_getElem? (i := 61) rfl)) rfl) rfl (by decide +kernel)
theorem ff_Ws_78 : ab_F "HiddenRows$WaySums" 78 2 0 true (.array (.array .int)) := ab_F_mk cl_St (by decide) (ab_mem (List.mem_append_right _ (List.mem_of_getElem? (i := 58) rfl)) rfl) rfl (by decide +kernel)
theorem ff_Ws_94 : ab_F "HiddenRows$WaySums" 94 1 1 true (.array .int) := ab_F_mk cl_Ro (by decide) (ab_mem (List.mem_append_right _ (List.mem_of_getElem? (i := 30) rfl)) rfl) rfl (by decide +kernel)
theorem ff_Ws_98 : ab_F "HiddenRows$WaySums" 98 1 0 true (.array .int) := ab_F_mk cl_Ro (by decide) (ab_mem (List.mem_append_right _ (List.mem_of_getElem? (i := 28) rfl)) rfl) rfl (by decide +kernel)
set_option maxRecDepth 20000 in
theorem ff_Mo_7 : ab_F "HiddenRowsModel" 7 9 1 true (.array .int) := ab_F_mk cl_Mo (by decide) (ab_mem (List.mem_append_right _ (List.mem_of_getElem? (i := 638) rfl)) rfl) rfl (by decide +kernel)
set_option maxRecDepth 20000 in
theorem ff_Mo_13 : ab_F "HiddenRowsModel" 13 9 2 true (.array .int) := ab_F_mk cl_Mo (by decide) (ab_mem (List.mem_append_right _ (List.mem_of_getElem? (i := 639) rfl)) rfl) rfl (by decide +kernel)
set_option maxRecDepth 20000 in
theorem ff_Mo_16 : ab_F "HiddenRowsModel" 16 9 4 true (.array .int) := ab_F_mk cl_Mo (by decide) (ab_mem (List.mem_append_right _ (List.mem_of_getElem? (i := 641) rfl)) rfl) rfl (by decide +kernel)
set_option maxRecDepth 20000 in
theorem ff_Mo_19 : ab_F "HiddenRowsModel" 19 9 5 true (.array .int) := ab_F_mk cl_Mo (by decide) (ab_mem (List.mem_append_right _ (List.mem_of_getElem? (i := 642) rfl)) rfl) rfl (by decide +kernel)
set_option maxRecDepth 20000 in
theorem ff_Mo_22 : ab_F "HiddenRowsModel" 22 9 7 true (.array .int) := ab_F_mk cl_Mo (by decide) (ab_mem (List.mem_append_right _ (List.mem_of_getElem? (i := 644) rfl)) rfl) rfl (by decide +kernel)
set_option maxRecDepth 20000 in
theorem ff_Mo_25 : ab_F "HiddenRowsModel" 25 9 8 true (.array .int) := ab_F_mk cl_Mo (by decide) (ab_mem (List.mem_append_right _ (List.mem_of_getElem? (i := 645) rfl)) rfl) rfl (by decide +kernel)
set_option maxRecDepth 20000 in
theorem ff_Mo_28 : ab_F "HiddenRowsModel" 28 9 11 true (.array .int) := ab_F_mk cl_Mo (by decide) (ab_mem (List.mem_append_right _ (List.mem_of_getElem? (i := 648) rfl)) rfl) rfl (by decide +kernel)
set_option maxRecDepth 20000 in
theorem ff_Mo_31 : ab_F "HiddenRowsModel" 31 9 14 true (.array .long) := ab_F_mk cl_Mo (by decide) (ab_mem (List.mem_append_right _ (List.mem_of_getElem? (i := 651) rfl)) rfl) rfl (by decide +kernel)
set_option maxRecDepth 20000 in
theorem ff_Mo_35 : ab_F "HiddenRowsModel" 35 9 15 true (.array .long) := ab_F_mk cl_Mo (by decide) (ab_mem (List.mem_append_right _ (List.mem_of_getElem? (i := 652) rfl)) rfl) rfl (by decide +kernel)
set_option maxRecDepth 20000 in
theorem ff_Mo_38 : ab_F "HiddenRowsModel" 38 9 16 true (.array .long) := ab_F_mk cl_Mo (by decide) (ab_mem (List.mem_append_right _ (List.mem_of_getElem? (i := 653) rfl)) rfl) rfl (by decide +kernel)
set_option maxRecDepth 20000 in
theorem ff_Mo_41 : ab_F "HiddenRowsModel" 41 9 18 true (.array .long) := ab_F_mk cl_Mo (by decide) (ab_mem (List.mem_append_right _ (List.mem_of_getElem? (i := 655) rfl)) rfl) rfl (by decide +kernel)
set_option maxRecDepth 20000 in
theorem ff_Mo_44 : ab_F "HiddenRowsModel" 44 9 19 true (.array .int) := ab_F_mk cl_Mo (by decide) (ab_mem (List.mem_append_right _ (List.mem_of_getElem? (i := 656) rfl)) rfl) rfl (by decide +kernel)
set_option maxRecDepth 20000 in
theorem ff_Mo_47 : ab_F "HiddenRowsModel" 47 9 20 true (.array .int) := ab_F_mk cl_Mo (by decide) (ab_mem (List.mem_append_right _ (List.mem_of_getElem? (i := 657) rfl)) rfl) rfl (by decide +kernel)
set_option maxRecDepth 20000 in
theorem ff_Mo_50 : ab_F "HiddenRowsModel" 50 9 21 true (.array .long) := ab_F_mk cl_Mo (by decide) (ab_mem (List.mem_append_right _ (List.mem_of_getElem? (i := 658) rfl)) rfl) rfl (by decide +kernel)
set_option maxRecDepth 20000 in
theorem ff_Mo_53 : ab_F "HiddenRowsModel" 53 9 22 true (.array .long) := ab_F_mk cl_Mo (by decide) (ab_mem (List.mem_append_right _ (List.mem_of_getElem? (i := 659) rfl)) rfl) rfl (by decide +kernel)
set_option maxRecDepth 20000 in
theorem ff_Mo_56 : ab_F "HiddenRowsModel" 56 9 23 true (.array .long) := ab_F_mk cl_Mo (by decide) (ab_mem (List.mem_append_right _ (List.mem_of_getElem? (i := 660) rfl)) rfl) rfl (by decide +kernel)
set_option maxRecDepth 20000 in
theorem ff_Mo_59 : ab_F "HiddenRowsModel" 59 9 24 true (.array .int) := ab_F_mk cl_Mo (by decide) (ab_mem (List.mem_append_right _ (List.mem_of_getElem? (i := 661) rfl)) rfl) rfl (by decide +kernel)
set_option maxRecDepth 20000 in
theorem ff_Mo_62 : ab_F "HiddenRowsModel" 62 9 25 true (.array .int) := ab_F_mk cl_Mo (by decide) (ab_mem (List.mem_append_right _ (List.mem_of_getElem? (i := 662) rfl)) rfl) rfl (by decide +kernel)
set_option maxRecDepth 20000 in
theorem ff_Mo_65 : ab_F "HiddenRowsModel" 65 9 26 true (.array .int) := ab_F_mk cl_Mo (by decide) (ab_mem (List.mem_append_right _ (List.mem_of_getElem? (i := 663) rfl)) rfl) rfl (by decide +kernel)
set_option maxRecDepth 20000 in
theorem ff_Mo_68 : ab_F "HiddenRowsModel" 68 9 9 false .boolean := ab_F_mk cl_Mo (by decide) (ab_mem (List.mem_append_right _ (List.mem_of_getElem? (i := 646) rfl)) rfl) rfl (by decide +kernel)
set_option maxRecDepth 20000 in
theorem ff_Mo_72 : ab_F "HiddenRowsModel" 72 9 10 false .boolean := ab_F_mk cl_Mo (by decide) (ab_mem (List.mem_append_right _ (List.mem_of_getElem? (i := 647) rfl)) rfl) rfl (by decide +kernel)
set_option maxRecDepth 20000 in
theorem ff_Mo_75 : ab_F "HiddenRowsModel" 75 9 0 false .int := ab_F_mk cl_Mo (by decide) (ab_mem (List.mem_append_right _ (List.mem_of_getElem? (i := 637) rfl)) rfl) rfl (by decide +kernel)
set_option maxRecDepth 20000 in
theorem ff_Mo_79 : ab_F "HiddenRowsModel" 79 9 3 false .int := ab_F_mk cl_Mo (by decide) (ab_mem (List.mem_append_right _ (List.mem_of_getElem? (i := 640) rfl)) rfl) rfl (by decide +kernel)
set_option maxRecDepth 20000 in
theorem ff_Mo_82 : ab_F "HiddenRowsModel" 82 9 6 false .int := ab_F_mk cl_Mo (by decide) (ab_mem (List.mem_append_right _ (List.mem_of_getElem? (i := 643) rfl)) rfl) rfl (by decide +kernel)
set_option maxRecDepth 20000 in
theorem ff_Mo_113 : ab_F "HiddenRowsModel" 113 9 17 false .int := ab_F_mk cl_Mo (by decide) (ab_mem (List.mem_append_right _ (List.mem_of_getElem? (i := 654) rfl)) rfl) rfl (by decide +kernel)
set_option maxRecDepth 20000 in
theorem ff_Mo_116 : ab_F "HiddenRowsModel" 116 9 12 false .long := ab_F_mk cl_Mo (by decide) (ab_mem (List.mem_append_right _ (List.mem_of_getElem? (i := 649) rfl)) rfl) rfl (by decide +kernel)
set_option maxRecDepth 20000 in
theorem ff_Mo_120 : ab_F "HiddenRowsModel" 120 9 13 false .int := ab_F_mk cl_Mo (by decide) (ab_mem (List.mem_append_right _ (List.mem_of_getElem? (i := 650) rfl)) rfl) rfl (by decide +kernel)
theorem kc_H_27 : Cond.constant "HiddenRows" 27 (2147483647) ∈ ab_tbl := (ab_mem (List.mem_append_right _ (List.mem_of_getElem? (i := 78) rfl)) rfl)
theorem kc_H_126 : Cond.constantLong "HiddenRows" 126 (-1) ∈ ab_tbl := (ab_mem (List.mem_append_right _ (List.mem_of_getElem? (i := 417) rfl)) rfl)
theorem kc_H_131 : Cond.constantLong "HiddenRows" 131 (-2) ∈ ab_tbl := (ab_mem (List.mem_append_right _ (List.mem_of_getElem? (i := 421) rfl)) rfl)
theorem kc_H_160 : Cond.constantLong "HiddenRows" 160 (-3) ∈ ab_tbl := (ab_mem (List.mem_append_right _ (List.mem_of_getElem? (i := 432) rfl)) rfl)
set_option maxRecDepth 20000 in
theorem kc_Dr_44 : Cond.constant "HiddenRows$Drawing" 44 (1664525) ∈ ab_tbl := (ab_mem (List.mem_append_right _ (List.mem_of_getElem? (i := 511) rfl)) rfl)
set_option maxRecDepth 20000 in
theorem kc_Dr_45 : Cond.constant "HiddenRows$Drawing" 45 (1013904223) ∈ ab_tbl := (ab_mem (List.mem_append_right _ (List.mem_of_getElem? (i := 512) rfl)) rfl)
set_option maxRecDepth 20000 in
theorem kc_Dr_46 : Cond.constantLong "HiddenRows$Drawing" 46 (2147483648) ∈ ab_tbl := (ab_mem (List.mem_append_right _ (List.mem_of_getElem? (i := 513) rfl)) rfl)
set_option maxRecDepth 20000 in
theorem kc_Mo_145 : Cond.constantLong "HiddenRowsModel" 145 (-1) ∈ ab_tbl := (ab_mem (List.mem_append_right _ (List.mem_of_getElem? (i := 818) rfl)) rfl)
set_option maxRecDepth 20000 in
theorem kc_Mo_147 : Cond.constantLong "HiddenRowsModel" 147 (-2) ∈ ab_tbl := (ab_mem (List.mem_append_right _ (List.mem_of_getElem? (i := 819) rfl)) rfl)
set_option maxRecDepth 20000 in
theorem kc_Mo_149 : Cond.constantLong "HiddenRowsModel" 149 (-3) ∈ ab_tbl := (ab_mem (List.mem_append_right _ (List.mem_of_getElem? (i := 820) rfl)) rfl)
set_option maxRecDepth 20000 in
theorem kc_Mo_155 : Cond.constant "HiddenRowsModel" 155 (1664525) ∈ ab_tbl := (ab_mem (List.mem_append_right _ (List.mem_of_getElem? (i := 851) rfl)) rfl)
set_option maxRecDepth 20000 in
theorem kc_Mo_156 : Cond.constant "HiddenRowsModel" 156 (1013904223) ∈ ab_tbl := (ab_mem (List.mem_append_right _ (List.mem_of_getElem? (i := 852) rfl)) rfl)
set_option maxRecDepth 20000 in
theorem kc_Mo_157 : Cond.constantLong "HiddenRowsModel" 157 (2147483648) ∈ ab_tbl := (ab_mem (List.mem_append_right _ (List.mem_of_getElem? (i := 853) rfl)) rfl)
theorem lk_H_3 : Cond.methodLink "HiddenRows" 3 ⟨"java/lang/Object", "<init>", "()V"⟩ ∈ ab_tbl := (ab_mem (List.mem_append_right _ (List.mem_of_getElem? (i := 17) rfl)) rfl)
theorem lk_H_28 : Cond.methodLink "HiddenRows" 28 ⟨"HiddenRows$WaySums", "<init>", "(LHiddenRows$Row;LHiddenRows$States;I)V"⟩ ∈ ab_tbl := (ab_mem (List.mem_append_right _ (List.mem_of_getElem? (i := 79) rfl)) rfl)
theorem lk_H_40 : Cond.methodLink "HiddenRows" 40 ⟨"HiddenRows$BestWays", "<init>", "(LHiddenRows$Row;LHiddenRows$States;LHiddenRows$WaySums;)V"⟩ ∈ ab_tbl := (ab_mem (List.mem_append_right _ (List.mem_of_getElem? (i := 118) rfl)) rfl)
theorem lk_H_49 : Cond.methodLink "HiddenRows" 49 ⟨"HiddenRows$Drawing", "<init>", "(LHiddenRows$Row;LHiddenRows$States;LHiddenRows$WaySums;)V"⟩ ∈ ab_tbl := (ab_mem (List.mem_append_right _ (List.mem_of_getElem? (i := 167) rfl)) rfl)
theorem lk_H_63 : Cond.methodLink "HiddenRows" 63 ⟨"HiddenRows$TreeTables", "<init>", "(LHiddenRows$Row;LHiddenRows$Kinds;)V"⟩ ∈ ab_tbl := (ab_mem (List.mem_append_right _ (List.mem_of_getElem? (i := 225) rfl)) rfl)
theorem lk_H_74 : Cond.methodLink "HiddenRows" 74 ⟨"HiddenRows", "forgetWays", "()V"⟩ ∈ ab_tbl := (ab_mem (List.mem_append_right _ (List.mem_of_getElem? (i := 291) rfl)) rfl)
theorem lk_H_77 : Cond.methodLink "HiddenRows" 77 ⟨"HiddenRows$States", "addOne", "()I"⟩ ∈ ab_tbl := (ab_mem (List.mem_append_right _ (List.mem_of_getElem? (i := 295) rfl)) rfl)
theorem lk_H_81 : Cond.methodLink "HiddenRows" 81 ⟨"HiddenRows$States", "has", "(I)Z"⟩ ∈ ab_tbl := (ab_mem (List.mem_append_right _ (List.mem_of_getElem? (i := 303) rfl)) rfl)
theorem lk_H_85 : Cond.methodLink "HiddenRows" 85 ⟨"HiddenRows", "isWeight", "(I)Z"⟩ ∈ ab_tbl := (ab_mem (List.mem_append_right _ (List.mem_of_getElem? (i := 307) rfl)) rfl)
theorem lk_H_96 : Cond.methodLink "HiddenRows" 96 ⟨"HiddenRows", "forgetTrees", "()V"⟩ ∈ ab_tbl := (ab_mem (List.mem_append_right _ (List.mem_of_getElem? (i := 318) rfl)) rfl)
theorem lk_H_99 : Cond.methodLink "HiddenRows" 99 ⟨"HiddenRows$Kinds", "has", "(I)Z"⟩ ∈ ab_tbl := (ab_mem (List.mem_append_right _ (List.mem_of_getElem? (i := 326) rfl)) rfl)
theorem lk_H_100 : Cond.methodLink "HiddenRows" 100 ⟨"HiddenRows$Kinds", "parts", "(II)I"⟩ ∈ ab_tbl := (ab_mem (List.mem_append_right _ (List.mem_of_getElem? (i := 330) rfl)) rfl)
theorem lk_H_113 : Cond.methodLink "HiddenRows" 113 ⟨"HiddenRows$Row", "append", "(I)V"⟩ ∈ ab_tbl := (ab_mem (List.mem_append_right _ (List.mem_of_getElem? (i := 341) rfl)) rfl)
theorem lk_H_117 : Cond.methodLink "HiddenRows" 117 ⟨"HiddenRows$Row", "has", "(I)Z"⟩ ∈ ab_tbl := (ab_mem (List.mem_append_right _ (List.mem_of_getElem? (i := 353) rfl)) rfl)
theorem lk_H_122 : Cond.methodLink "HiddenRows" 122 ⟨"HiddenRows$WaySums", "whole", "()J"⟩ ∈ ab_tbl := (ab_mem (List.mem_append_right _ (List.mem_of_getElem? (i := 361) rfl)) rfl)
theorem lk_H_128 : Cond.methodLink "HiddenRows" 128 ⟨"HiddenRows", "isPart", "(I)Z"⟩ ∈ ab_tbl := (ab_mem (List.mem_append_right _ (List.mem_of_getElem? (i := 418) rfl)) rfl)
theorem lk_H_133 : Cond.methodLink "HiddenRows" 133 ⟨"HiddenRows$WaySums", "over", "(II)J"⟩ ∈ ab_tbl := (ab_mem (List.mem_append_right _ (List.mem_of_getElem? (i := 422) rfl)) rfl)
theorem lk_H_137 : Cond.methodLink "HiddenRows" 137 ⟨"HiddenRows", "lowestTerms", "(JJI)J"⟩ ∈ ab_tbl := (ab_mem (List.mem_append_right _ (List.mem_of_getElem? (i := 429) rfl)) rfl)
theorem lk_H_141 : Cond.methodLink "HiddenRows" 141 ⟨"HiddenRows$WaySums", "beginning", "(II)J"⟩ ∈ ab_tbl := (ab_mem (List.mem_append_right _ (List.mem_of_getElem? (i := 440) rfl)) rfl)
theorem lk_H_144 : Cond.methodLink "HiddenRows" 144 ⟨"HiddenRows$WaySums", "moving", "(III)J"⟩ ∈ ab_tbl := (ab_mem (List.mem_append_right _ (List.mem_of_getElem? (i := 448) rfl)) rfl)
set_option maxRecDepth 20000 in
theorem lk_H_148 : Cond.methodLink "HiddenRows" 148 ⟨"HiddenRows$BestWays", "list", "()LHiddenRows$WayList;"⟩ ∈ ab_tbl := (ab_mem (List.mem_append_right _ (List.mem_of_getElem? (i := 460) rfl)) rfl)
set_option maxRecDepth 20000 in
theorem lk_H_165 : Cond.methodLink "HiddenRows" 165 ⟨"HiddenRows$Row", "toldAt", "(II)I"⟩ ∈ ab_tbl := (ab_mem (List.mem_append_right _ (List.mem_of_getElem? (i := 500) rfl)) rfl)
set_option maxRecDepth 20000 in
theorem lk_H_168 : Cond.methodLink "HiddenRows" 168 ⟨"HiddenRows$Drawing", "spread", "(I)J"⟩ ∈ ab_tbl := (ab_mem (List.mem_append_right _ (List.mem_of_getElem? (i := 508) rfl)) rfl)
set_option maxRecDepth 20000 in
theorem lk_H_172 : Cond.methodLink "HiddenRows" 172 ⟨"HiddenRows$Drawing", "draw", "(J)J"⟩ ∈ ab_tbl := (ab_mem (List.mem_append_right _ (List.mem_of_getElem? (i := 514) rfl)) rfl)
set_option maxRecDepth 20000 in
theorem lk_H_182 : Cond.methodLink "HiddenRows" 182 ⟨"HiddenRows$TreeTables", "sumOfAll", "(I)J"⟩ ∈ ab_tbl := (ab_mem (List.mem_append_right _ (List.mem_of_getElem? (i := 549) rfl)) rfl)
set_option maxRecDepth 20000 in
theorem lk_H_185 : Cond.methodLink "HiddenRows" 185 ⟨"HiddenRows$TreeTables", "countOfAll", "(I)J"⟩ ∈ ab_tbl := (ab_mem (List.mem_append_right _ (List.mem_of_getElem? (i := 583) rfl)) rfl)
set_option maxRecDepth 20000 in
theorem lk_H_188 : Cond.methodLink "HiddenRows" 188 ⟨"HiddenRows$TreeTables", "bestOfAll", "(I)J"⟩ ∈ ab_tbl := (ab_mem (List.mem_append_right _ (List.mem_of_getElem? (i := 591) rfl)) rfl)
set_option maxRecDepth 20000 in
theorem lk_H_191 : Cond.methodLink "HiddenRows" 191 ⟨"HiddenRows$TreeTables", "bestTells", "(II)I"⟩ ∈ ab_tbl := (ab_mem (List.mem_append_right _ (List.mem_of_getElem? (i := 599) rfl)) rfl)
set_option maxRecDepth 20000 in
theorem lk_H_194 : Cond.methodLink "HiddenRows" 194 ⟨"HiddenRows$TreeTables", "sumWith", "(IIII)J"⟩ ∈ ab_tbl := (ab_mem (List.mem_append_right _ (List.mem_of_getElem? (i := 619) rfl)) rfl)
theorem lk_H_201 : Cond.methodLink "HiddenRows" 201 ⟨"HiddenRows", "commonDivisor", "(JJ)J"⟩ ∈ ab_tbl := (ab_mem (List.mem_append_right _ (List.mem_of_getElem? (i := 433) rfl)) rfl)
theorem lk_Bw_3 : Cond.methodLink "HiddenRows$BestWays" 3 ⟨"java/lang/Object", "<init>", "()V"⟩ ∈ ab_tbl := (ab_mem (List.mem_append_right _ (List.mem_of_getElem? (i := 121) rfl)) rfl)
set_option maxRecDepth 20000 in
theorem lk_Bw_38 : Cond.methodLink "HiddenRows$BestWays" 38 ⟨"HiddenRows$WaySums", "refresh", "()V"⟩ ∈ ab_tbl := (ab_mem (List.mem_append_right _ (List.mem_of_getElem? (i := 464) rfl)) rfl)
set_option maxRecDepth 20000 in
theorem lk_Bw_54 : Cond.methodLink "HiddenRows$BestWays" 54 ⟨"HiddenRows$BestWays", "listEnds", "(II)V"⟩ ∈ ab_tbl := (ab_mem (List.mem_append_right _ (List.mem_of_getElem? (i := 465) rfl)) rfl)
set_option maxRecDepth 20000 in
theorem lk_Bw_58 : Cond.methodLink "HiddenRows$BestWays" 58 ⟨"HiddenRows$BestWays", "listWhole", "()V"⟩ ∈ ab_tbl := (ab_mem (List.mem_append_right _ (List.mem_of_getElem? (i := 492) rfl)) rfl)
set_option maxRecDepth 20000 in
theorem lk_Bw_68 : Cond.methodLink "HiddenRows$BestWays" 68 ⟨"HiddenRows$BestWays", "endsFrom", "(II)LHiddenRows$WayList;"⟩ ∈ ab_tbl := (ab_mem (List.mem_append_right _ (List.mem_of_getElem? (i := 469) rfl)) rfl)
set_option maxRecDepth 20000 in
theorem lk_Bw_72 : Cond.methodLink "HiddenRows$BestWays" 72 ⟨"HiddenRows$BestWays", "offerAll", "(LHiddenRows$WayList;JILHiddenRows$WayList;)V"⟩ ∈ ab_tbl := (ab_mem (List.mem_append_right _ (List.mem_of_getElem? (i := 489) rfl)) rfl)
set_option maxRecDepth 20000 in
theorem lk_Bw_76 : Cond.methodLink "HiddenRows$BestWays" 76 ⟨"HiddenRows$WaySums", "segment", "(III)J"⟩ ∈ ab_tbl := (ab_mem (List.mem_append_right _ (List.mem_of_getElem? (i := 473) rfl)) rfl)
set_option maxRecDepth 20000 in
theorem lk_Bw_80 : Cond.methodLink "HiddenRows$BestWays" 80 ⟨"HiddenRows$WayList", "offer", "(JI)Z"⟩ ∈ ab_tbl := (ab_mem (List.mem_append_right _ (List.mem_of_getElem? (i := 474) rfl)) rfl)
set_option maxRecDepth 20000 in
theorem lk_Bw_84 : Cond.methodLink "HiddenRows$BestWays" 84 ⟨"HiddenRows$BestWays", "offerMoves", "(LHiddenRows$WayList;JIII)V"⟩ ∈ ab_tbl := (ab_mem (List.mem_append_right _ (List.mem_of_getElem? (i := 485) rfl)) rfl)
theorem lk_Dr_3 : Cond.methodLink "HiddenRows$Drawing" 3 ⟨"java/lang/Object", "<init>", "()V"⟩ ∈ ab_tbl := (ab_mem (List.mem_append_right _ (List.mem_of_getElem? (i := 170) rfl)) rfl)
set_option maxRecDepth 20000 in
theorem lk_Dr_48 : Cond.methodLink "HiddenRows$Drawing" 48 ⟨"HiddenRows$WaySums", "refresh", "()V"⟩ ∈ ab_tbl := (ab_mem (List.mem_append_right _ (List.mem_of_getElem? (i := 518) rfl)) rfl)
set_option maxRecDepth 20000 in
theorem lk_Dr_58 : Cond.methodLink "HiddenRows$Drawing" 58 ⟨"HiddenRows$Drawing", "openSegment", "(I)J"⟩ ∈ ab_tbl := (ab_mem (List.mem_append_right _ (List.mem_of_getElem? (i := 519) rfl)) rfl)
set_option maxRecDepth 20000 in
theorem lk_Dr_62 : Cond.methodLink "HiddenRows$Drawing" 62 ⟨"HiddenRows$Drawing", "tellPlace", "(IJ)J"⟩ ∈ ab_tbl := (ab_mem (List.mem_append_right _ (List.mem_of_getElem? (i := 524) rfl)) rfl)
set_option maxRecDepth 20000 in
theorem lk_Dr_75 : Cond.methodLink "HiddenRows$Drawing" 75 ⟨"HiddenRows$Drawing", "sumTelling", "(II)J"⟩ ∈ ab_tbl := (ab_mem (List.mem_append_right _ (List.mem_of_getElem? (i := 528) rfl)) rfl)
set_option maxRecDepth 20000 in
theorem lk_Dr_79 : Cond.methodLink "HiddenRows$Drawing" 79 ⟨"HiddenRows$Drawing", "take", "(II)V"⟩ ∈ ab_tbl := (ab_mem (List.mem_append_right _ (List.mem_of_getElem? (i := 537) rfl)) rfl)
set_option maxRecDepth 20000 in
theorem lk_Dr_83 : Cond.methodLink "HiddenRows$Drawing" 83 ⟨"HiddenRows$Drawing", "closing", "(II)J"⟩ ∈ ab_tbl := (ab_mem (List.mem_append_right _ (List.mem_of_getElem? (i := 532) rfl)) rfl)
set_option maxRecDepth 20000 in
theorem lk_Dr_90 : Cond.methodLink "HiddenRows$Drawing" 90 ⟨"HiddenRows$WaySums", "longerThan", "(III)J"⟩ ∈ ab_tbl := (ab_mem (List.mem_append_right _ (List.mem_of_getElem? (i := 536) rfl)) rfl)
set_option maxRecDepth 20000 in
theorem lk_Dr_97 : Cond.methodLink "HiddenRows$Drawing" 97 ⟨"HiddenRows$WaySums", "segment", "(III)J"⟩ ∈ ab_tbl := (ab_mem (List.mem_append_right _ (List.mem_of_getElem? (i := 523) rfl)) rfl)
theorem lk_Ki_3 : Cond.methodLink "HiddenRows$Kinds" 3 ⟨"java/lang/Object", "<init>", "()V"⟩ ∈ ab_tbl := (ab_mem (List.mem_append_right _ (List.mem_of_getElem? (i := 206) rfl)) rfl)
theorem lk_Ro_3 : Cond.methodLink "HiddenRows$Row" 3 ⟨"java/lang/Object", "<init>", "()V"⟩ ∈ ab_tbl := (ab_mem (List.mem_append_right _ (List.mem_of_getElem? (i := 25) rfl)) rfl)
theorem lk_St_3 : Cond.methodLink "HiddenRows$States" 3 ⟨"java/lang/Object", "<init>", "()V"⟩ ∈ ab_tbl := (ab_mem (List.mem_append_right _ (List.mem_of_getElem? (i := 51) rfl)) rfl)
theorem lk_Tt_3 : Cond.methodLink "HiddenRows$TreeTables" 3 ⟨"java/lang/Object", "<init>", "()V"⟩ ∈ ab_tbl := (ab_mem (List.mem_append_right _ (List.mem_of_getElem? (i := 228) rfl)) rfl)
set_option maxRecDepth 20000 in
theorem lk_Tt_48 : Cond.methodLink "HiddenRows$TreeTables" 48 ⟨"HiddenRows$TreeTables", "refresh", "()V"⟩ ∈ ab_tbl := (ab_mem (List.mem_append_right _ (List.mem_of_getElem? (i := 553) rfl)) rfl)
set_option maxRecDepth 20000 in
theorem lk_Tt_56 : Cond.methodLink "HiddenRows$TreeTables" 56 ⟨"HiddenRows$TreeTables", "spanOf", "(II)I"⟩ ∈ ab_tbl := (ab_mem (List.mem_append_right _ (List.mem_of_getElem? (i := 561) rfl)) rfl)
set_option maxRecDepth 20000 in
theorem lk_Tt_64 : Cond.methodLink "HiddenRows$TreeTables" 64 ⟨"HiddenRows$TreeTables", "fill", "(III)V"⟩ ∈ ab_tbl := (ab_mem (List.mem_append_right _ (List.mem_of_getElem? (i := 557) rfl)) rfl)
set_option maxRecDepth 20000 in
theorem lk_Tt_71 : Cond.methodLink "HiddenRows$TreeTables" 71 ⟨"HiddenRows$Kinds", "leafOf", "(II)I"⟩ ∈ ab_tbl := (ab_mem (List.mem_append_right _ (List.mem_of_getElem? (i := 564) rfl)) rfl)
set_option maxRecDepth 20000 in
theorem lk_Tt_74 : Cond.methodLink "HiddenRows$TreeTables" 74 ⟨"java/lang/Math", "min", "(JJ)J"⟩ ∈ ab_tbl := (ab_mem (List.mem_append_right _ (List.mem_of_getElem? (i := 568) rfl)) rfl)
set_option maxRecDepth 20000 in
theorem lk_Tt_80 : Cond.methodLink "HiddenRows$TreeTables" 80 ⟨"HiddenRows$TreeTables", "addSplit", "(IIII)V"⟩ ∈ ab_tbl := (ab_mem (List.mem_append_right _ (List.mem_of_getElem? (i := 571) rfl)) rfl)
set_option maxRecDepth 20000 in
theorem lk_Tt_88 : Cond.methodLink "HiddenRows$TreeTables" 88 ⟨"HiddenRows$Kinds", "parts", "(II)I"⟩ ∈ ab_tbl := (ab_mem (List.mem_append_right _ (List.mem_of_getElem? (i := 575) rfl)) rfl)
set_option maxRecDepth 20000 in
theorem lk_Tt_91 : Cond.methodLink "HiddenRows$TreeTables" 91 ⟨"java/lang/Math", "max", "(JJ)J"⟩ ∈ ab_tbl := (ab_mem (List.mem_append_right _ (List.mem_of_getElem? (i := 576) rfl)) rfl)
set_option maxRecDepth 20000 in
theorem lk_Tt_94 : Cond.methodLink "HiddenRows$TreeTables" 94 ⟨"HiddenRows$TreeTables", "push", "(II)V"⟩ ∈ ab_tbl := (ab_mem (List.mem_append_right _ (List.mem_of_getElem? (i := 603) rfl)) rfl)
set_option maxRecDepth 20000 in
theorem lk_Tt_98 : Cond.methodLink "HiddenRows$TreeTables" 98 ⟨"HiddenRows$TreeTables", "tellNode", "(II)I"⟩ ∈ ab_tbl := (ab_mem (List.mem_append_right _ (List.mem_of_getElem? (i := 607) rfl)) rfl)
set_option maxRecDepth 20000 in
theorem lk_Tt_101 : Cond.methodLink "HiddenRows$TreeTables" 101 ⟨"HiddenRows$TreeTables", "bestParts", "(IIII)I"⟩ ∈ ab_tbl := (ab_mem (List.mem_append_right _ (List.mem_of_getElem? (i := 611) rfl)) rfl)
set_option maxRecDepth 20000 in
theorem lk_Tt_105 : Cond.methodLink "HiddenRows$TreeTables" 105 ⟨"HiddenRows$TreeTables", "addAround", "(IIII)V"⟩ ∈ ab_tbl := (ab_mem (List.mem_append_right _ (List.mem_of_getElem? (i := 623) rfl)) rfl)
set_option maxRecDepth 20000 in
theorem lk_Tt_108 : Cond.methodLink "HiddenRows$TreeTables" 108 ⟨"HiddenRows$TreeTables", "addProducts", "(I[[JI[[JI)V"⟩ ∈ ab_tbl := (ab_mem (List.mem_append_right _ (List.mem_of_getElem? (i := 627) rfl)) rfl)
theorem lk_Wl_3 : Cond.methodLink "HiddenRows$WayList" 3 ⟨"java/lang/Object", "<init>", "()V"⟩ ∈ ab_tbl := (ab_mem (List.mem_append_right _ (List.mem_of_getElem? (i := 128) rfl)) rfl)
set_option maxRecDepth 20000 in
theorem lk_Wl_23 : Cond.methodLink "HiddenRows$WayList" 23 ⟨"HiddenRows$WayList", "isBetter", "(JII)Z"⟩ ∈ ab_tbl := (ab_mem (List.mem_append_right _ (List.mem_of_getElem? (i := 478) rfl)) rfl)
set_option maxRecDepth 20000 in
theorem lk_Wl_27 : Cond.methodLink "HiddenRows$WayList" 27 ⟨"java/lang/Math", "min", "(II)I"⟩ ∈ ab_tbl := (ab_mem (List.mem_append_right _ (List.mem_of_getElem? (i := 482) rfl)) rfl)
theorem lk_Ws_3 : Cond.methodLink "HiddenRows$WaySums" 3 ⟨"java/lang/Object", "<init>", "()V"⟩ ∈ ab_tbl := (ab_mem (List.mem_append_right _ (List.mem_of_getElem? (i := 82) rfl)) rfl)
theorem lk_Ws_44 : Cond.methodLink "HiddenRows$WaySums" 44 ⟨"HiddenRows$WaySums", "refresh", "()V"⟩ ∈ ab_tbl := (ab_mem (List.mem_append_right _ (List.mem_of_getElem? (i := 365) rfl)) rfl)
theorem lk_Ws_57 : Cond.methodLink "HiddenRows$WaySums" 57 ⟨"java/lang/Math", "max", "(II)I"⟩ ∈ ab_tbl := (ab_mem (List.mem_append_right _ (List.mem_of_getElem? (i := 426) rfl)) rfl)
theorem lk_Ws_63 : Cond.methodLink "HiddenRows$WaySums" 63 ⟨"HiddenRows$WaySums", "longerThan", "(III)J"⟩ ∈ ab_tbl := (ab_mem (List.mem_append_right _ (List.mem_of_getElem? (i := 385) rfl)) rfl)
theorem lk_Ws_71 : Cond.methodLink "HiddenRows$WaySums" 71 ⟨"HiddenRows$WaySums", "cut", "(I)J"⟩ ∈ ab_tbl := (ab_mem (List.mem_append_right _ (List.mem_of_getElem? (i := 377) rfl)) rfl)
theorem lk_Ws_75 : Cond.methodLink "HiddenRows$WaySums" 75 ⟨"HiddenRows$WaySums", "segment", "(III)J"⟩ ∈ ab_tbl := (ab_mem (List.mem_append_right _ (List.mem_of_getElem? (i := 389) rfl)) rfl)
theorem lk_Ws_81 : Cond.methodLink "HiddenRows$WaySums" 81 ⟨"HiddenRows$WaySums", "showPlaces", "()V"⟩ ∈ ab_tbl := (ab_mem (List.mem_append_right _ (List.mem_of_getElem? (i := 369) rfl)) rfl)
theorem lk_Ws_84 : Cond.methodLink "HiddenRows$WaySums" 84 ⟨"HiddenRows$WaySums", "sumFromBehind", "()V"⟩ ∈ ab_tbl := (ab_mem (List.mem_append_right _ (List.mem_of_getElem? (i := 381) rfl)) rfl)
theorem lk_Ws_87 : Cond.methodLink "HiddenRows$WaySums" 87 ⟨"HiddenRows$WaySums", "sumFromAhead", "()V"⟩ ∈ ab_tbl := (ab_mem (List.mem_append_right _ (List.mem_of_getElem? (i := 397) rfl)) rfl)
theorem lk_Ws_90 : Cond.methodLink "HiddenRows$WaySums" 90 ⟨"HiddenRows$WaySums", "showOf", "(II)J"⟩ ∈ ab_tbl := (ab_mem (List.mem_append_right _ (List.mem_of_getElem? (i := 373) rfl)) rfl)
theorem lk_Ws_101 : Cond.methodLink "HiddenRows$WaySums" 101 ⟨"HiddenRows$WaySums", "movedOutOf", "(II)J"⟩ ∈ ab_tbl := (ab_mem (List.mem_append_right _ (List.mem_of_getElem? (i := 393) rfl)) rfl)
theorem lk_Ws_104 : Cond.methodLink "HiddenRows$WaySums" 104 ⟨"HiddenRows$WaySums", "movedInto", "(II)J"⟩ ∈ ab_tbl := (ab_mem (List.mem_append_right _ (List.mem_of_getElem? (i := 401) rfl)) rfl)
theorem lk_Ws_107 : Cond.methodLink "HiddenRows$WaySums" 107 ⟨"HiddenRows$WaySums", "endedBefore", "(II)J"⟩ ∈ ab_tbl := (ab_mem (List.mem_append_right _ (List.mem_of_getElem? (i := 405) rfl)) rfl)
theorem lk_La_9 : Cond.methodLink "HiddenRowsLaw" 9 ⟨"HiddenRows", "<init>", "()V"⟩ ∈ ab_tbl := (ab_mem (List.mem_append_right _ (List.mem_of_getElem? (i := 14) rfl)) rfl)
set_option maxRecDepth 20000 in
theorem lk_La_12 : Cond.methodLink "HiddenRowsLaw" 12 ⟨"HiddenRowsModel", "<init>", "()V"⟩ ∈ ab_tbl := (ab_mem (List.mem_append_right _ (List.mem_of_getElem? (i := 633) rfl)) rfl)
theorem lk_La_13 : Cond.methodLink "HiddenRowsLaw" 13 ⟨"HiddenRows", "state", "()I"⟩ ∈ ab_tbl := (ab_mem (List.mem_append_right _ (List.mem_of_getElem? (i := 287) rfl)) rfl)
set_option maxRecDepth 20000 in
theorem lk_La_17 : Cond.methodLink "HiddenRowsLaw" 17 ⟨"HiddenRowsModel", "state", "()I"⟩ ∈ ab_tbl := (ab_mem (List.mem_append_right _ (List.mem_of_getElem? (i := 719) rfl)) rfl)
theorem lk_La_18 : Cond.methodLink "HiddenRowsLaw" 18 ⟨"HiddenRows", "weight", "(III)I"⟩ ∈ ab_tbl := (ab_mem (List.mem_append_right _ (List.mem_of_getElem? (i := 299) rfl)) rfl)
set_option maxRecDepth 20000 in
theorem lk_La_22 : Cond.methodLink "HiddenRowsLaw" 22 ⟨"HiddenRowsModel", "weight", "(III)I"⟩ ∈ ab_tbl := (ab_mem (List.mem_append_right _ (List.mem_of_getElem? (i := 727) rfl)) rfl)
theorem lk_La_23 : Cond.methodLink "HiddenRowsLaw" 23 ⟨"HiddenRows", "move", "(III)I"⟩ ∈ ab_tbl := (ab_mem (List.mem_append_right _ (List.mem_of_getElem? (i := 310) rfl)) rfl)
set_option maxRecDepth 20000 in
theorem lk_La_26 : Cond.methodLink "HiddenRowsLaw" 26 ⟨"HiddenRowsModel", "move", "(III)I"⟩ ∈ ab_tbl := (ab_mem (List.mem_append_right _ (List.mem_of_getElem? (i := 738) rfl)) rfl)
theorem lk_La_27 : Cond.methodLink "HiddenRowsLaw" 27 ⟨"HiddenRows", "kind", "()I"⟩ ∈ ab_tbl := (ab_mem (List.mem_append_right _ (List.mem_of_getElem? (i := 314) rfl)) rfl)
set_option maxRecDepth 20000 in
theorem lk_La_30 : Cond.methodLink "HiddenRowsLaw" 30 ⟨"HiddenRowsModel", "kind", "()I"⟩ ∈ ab_tbl := (ab_mem (List.mem_append_right _ (List.mem_of_getElem? (i := 742) rfl)) rfl)
theorem lk_La_31 : Cond.methodLink "HiddenRowsLaw" 31 ⟨"HiddenRows", "rule", "(IIII)I"⟩ ∈ ab_tbl := (ab_mem (List.mem_append_right _ (List.mem_of_getElem? (i := 322) rfl)) rfl)
set_option maxRecDepth 20000 in
theorem lk_La_35 : Cond.methodLink "HiddenRowsLaw" 35 ⟨"HiddenRowsModel", "rule", "(IIII)I"⟩ ∈ ab_tbl := (ab_mem (List.mem_append_right _ (List.mem_of_getElem? (i := 746) rfl)) rfl)
theorem lk_La_36 : Cond.methodLink "HiddenRowsLaw" 36 ⟨"HiddenRows", "leaf", "(III)I"⟩ ∈ ab_tbl := (ab_mem (List.mem_append_right _ (List.mem_of_getElem? (i := 333) rfl)) rfl)
set_option maxRecDepth 20000 in
theorem lk_La_39 : Cond.methodLink "HiddenRowsLaw" 39 ⟨"HiddenRowsModel", "leaf", "(III)I"⟩ ∈ ab_tbl := (ab_mem (List.mem_append_right _ (List.mem_of_getElem? (i := 754) rfl)) rfl)
theorem lk_La_40 : Cond.methodLink "HiddenRowsLaw" 40 ⟨"HiddenRows", "sign", "(I)I"⟩ ∈ ab_tbl := (ab_mem (List.mem_append_right _ (List.mem_of_getElem? (i := 337) rfl)) rfl)
set_option maxRecDepth 20000 in
theorem lk_La_44 : Cond.methodLink "HiddenRowsLaw" 44 ⟨"HiddenRowsModel", "sign", "(I)I"⟩ ∈ ab_tbl := (ab_mem (List.mem_append_right _ (List.mem_of_getElem? (i := 758) rfl)) rfl)
theorem lk_La_45 : Cond.methodLink "HiddenRowsLaw" 45 ⟨"HiddenRows", "clear", "()I"⟩ ∈ ab_tbl := (ab_mem (List.mem_append_right _ (List.mem_of_getElem? (i := 345) rfl)) rfl)
set_option maxRecDepth 20000 in
theorem lk_La_48 : Cond.methodLink "HiddenRowsLaw" 48 ⟨"HiddenRowsModel", "clear", "()I"⟩ ∈ ab_tbl := (ab_mem (List.mem_append_right _ (List.mem_of_getElem? (i := 762) rfl)) rfl)
theorem lk_La_49 : Cond.methodLink "HiddenRowsLaw" 49 ⟨"HiddenRows", "hold", "(II)I"⟩ ∈ ab_tbl := (ab_mem (List.mem_append_right _ (List.mem_of_getElem? (i := 349) rfl)) rfl)
set_option maxRecDepth 20000 in
theorem lk_La_53 : Cond.methodLink "HiddenRowsLaw" 53 ⟨"HiddenRowsModel", "hold", "(II)I"⟩ ∈ ab_tbl := (ab_mem (List.mem_append_right _ (List.mem_of_getElem? (i := 766) rfl)) rfl)
theorem lk_La_54 : Cond.methodLink "HiddenRowsLaw" 54 ⟨"HiddenRows", "total", "()J"⟩ ∈ ab_tbl := (ab_mem (List.mem_append_right _ (List.mem_of_getElem? (i := 357) rfl)) rfl)
set_option maxRecDepth 20000 in
theorem lk_La_58 : Cond.methodLink "HiddenRowsLaw" 58 ⟨"HiddenRowsModel", "total", "()J"⟩ ∈ ab_tbl := (ab_mem (List.mem_append_right _ (List.mem_of_getElem? (i := 774) rfl)) rfl)
theorem lk_La_59 : Cond.methodLink "HiddenRowsLaw" 59 ⟨"HiddenRows", "ways", "()I"⟩ ∈ ab_tbl := (ab_mem (List.mem_append_right _ (List.mem_of_getElem? (i := 409) rfl)) rfl)
set_option maxRecDepth 20000 in
theorem lk_La_62 : Cond.methodLink "HiddenRowsLaw" 62 ⟨"HiddenRowsModel", "ways", "()I"⟩ ∈ ab_tbl := (ab_mem (List.mem_append_right _ (List.mem_of_getElem? (i := 810) rfl)) rfl)
theorem lk_La_63 : Cond.methodLink "HiddenRowsLaw" 63 ⟨"HiddenRows", "share", "(III)J"⟩ ∈ ab_tbl := (ab_mem (List.mem_append_right _ (List.mem_of_getElem? (i := 413) rfl)) rfl)
set_option maxRecDepth 20000 in
theorem lk_La_67 : Cond.methodLink "HiddenRowsLaw" 67 ⟨"HiddenRowsModel", "share", "(III)J"⟩ ∈ ab_tbl := (ab_mem (List.mem_append_right _ (List.mem_of_getElem? (i := 814) rfl)) rfl)
theorem lk_La_68 : Cond.methodLink "HiddenRowsLaw" 68 ⟨"HiddenRows", "begin", "(III)J"⟩ ∈ ab_tbl := (ab_mem (List.mem_append_right _ (List.mem_of_getElem? (i := 436) rfl)) rfl)
set_option maxRecDepth 20000 in
theorem lk_La_71 : Cond.methodLink "HiddenRowsLaw" 71 ⟨"HiddenRowsModel", "begin", "(III)J"⟩ ∈ ab_tbl := (ab_mem (List.mem_append_right _ (List.mem_of_getElem? (i := 827) rfl)) rfl)
theorem lk_La_72 : Cond.methodLink "HiddenRowsLaw" 72 ⟨"HiddenRows", "pair", "(IIII)J"⟩ ∈ ab_tbl := (ab_mem (List.mem_append_right _ (List.mem_of_getElem? (i := 444) rfl)) rfl)
set_option maxRecDepth 20000 in
theorem lk_La_76 : Cond.methodLink "HiddenRowsLaw" 76 ⟨"HiddenRowsModel", "pair", "(IIII)J"⟩ ∈ ab_tbl := (ab_mem (List.mem_append_right _ (List.mem_of_getElem? (i := 831) rfl)) rfl)
set_option maxRecDepth 20000 in
theorem lk_La_77 : Cond.methodLink "HiddenRowsLaw" 77 ⟨"HiddenRows", "top", "(I)I"⟩ ∈ ab_tbl := (ab_mem (List.mem_append_right _ (List.mem_of_getElem? (i := 452) rfl)) rfl)
set_option maxRecDepth 20000 in
theorem lk_La_80 : Cond.methodLink "HiddenRowsLaw" 80 ⟨"HiddenRowsModel", "top", "(I)I"⟩ ∈ ab_tbl := (ab_mem (List.mem_append_right _ (List.mem_of_getElem? (i := 835) rfl)) rfl)
set_option maxRecDepth 20000 in
theorem lk_La_81 : Cond.methodLink "HiddenRowsLaw" 81 ⟨"HiddenRows", "best", "(I)J"⟩ ∈ ab_tbl := (ab_mem (List.mem_append_right _ (List.mem_of_getElem? (i := 456) rfl)) rfl)
set_option maxRecDepth 20000 in
theorem lk_La_85 : Cond.methodLink "HiddenRowsLaw" 85 ⟨"HiddenRowsModel", "best", "(I)J"⟩ ∈ ab_tbl := (ab_mem (List.mem_append_right _ (List.mem_of_getElem? (i := 839) rfl)) rfl)
set_option maxRecDepth 20000 in
theorem lk_La_86 : Cond.methodLink "HiddenRowsLaw" 86 ⟨"HiddenRows", "bestAt", "(II)I"⟩ ∈ ab_tbl := (ab_mem (List.mem_append_right _ (List.mem_of_getElem? (i := 496) rfl)) rfl)
set_option maxRecDepth 20000 in
theorem lk_La_89 : Cond.methodLink "HiddenRowsLaw" 89 ⟨"HiddenRowsModel", "bestAt", "(II)I"⟩ ∈ ab_tbl := (ab_mem (List.mem_append_right _ (List.mem_of_getElem? (i := 843) rfl)) rfl)
set_option maxRecDepth 20000 in
theorem lk_La_90 : Cond.methodLink "HiddenRowsLaw" 90 ⟨"HiddenRows", "drawn", "(I)J"⟩ ∈ ab_tbl := (ab_mem (List.mem_append_right _ (List.mem_of_getElem? (i := 504) rfl)) rfl)
set_option maxRecDepth 20000 in
theorem lk_La_93 : Cond.methodLink "HiddenRowsLaw" 93 ⟨"HiddenRowsModel", "drawn", "(I)J"⟩ ∈ ab_tbl := (ab_mem (List.mem_append_right _ (List.mem_of_getElem? (i := 847) rfl)) rfl)
set_option maxRecDepth 20000 in
theorem lk_La_94 : Cond.methodLink "HiddenRowsLaw" 94 ⟨"HiddenRows", "drawnAt", "(I)I"⟩ ∈ ab_tbl := (ab_mem (List.mem_append_right _ (List.mem_of_getElem? (i := 541) rfl)) rfl)
set_option maxRecDepth 20000 in
theorem lk_La_97 : Cond.methodLink "HiddenRowsLaw" 97 ⟨"HiddenRowsModel", "drawnAt", "(I)I"⟩ ∈ ab_tbl := (ab_mem (List.mem_append_right _ (List.mem_of_getElem? (i := 854) rfl)) rfl)
set_option maxRecDepth 20000 in
theorem lk_La_98 : Cond.methodLink "HiddenRowsLaw" 98 ⟨"HiddenRows", "trees", "(I)J"⟩ ∈ ab_tbl := (ab_mem (List.mem_append_right _ (List.mem_of_getElem? (i := 545) rfl)) rfl)
set_option maxRecDepth 20000 in
theorem lk_La_101 : Cond.methodLink "HiddenRowsLaw" 101 ⟨"HiddenRowsModel", "trees", "(I)J"⟩ ∈ ab_tbl := (ab_mem (List.mem_append_right _ (List.mem_of_getElem? (i := 858) rfl)) rfl)
set_option maxRecDepth 20000 in
theorem lk_La_102 : Cond.methodLink "HiddenRowsLaw" 102 ⟨"HiddenRows", "treeCount", "(I)J"⟩ ∈ ab_tbl := (ab_mem (List.mem_append_right _ (List.mem_of_getElem? (i := 579) rfl)) rfl)
set_option maxRecDepth 20000 in
theorem lk_La_105 : Cond.methodLink "HiddenRowsLaw" 105 ⟨"HiddenRowsModel", "treeCount", "(I)J"⟩ ∈ ab_tbl := (ab_mem (List.mem_append_right _ (List.mem_of_getElem? (i := 881) rfl)) rfl)
set_option maxRecDepth 20000 in
theorem lk_La_106 : Cond.methodLink "HiddenRowsLaw" 106 ⟨"HiddenRows", "treeBest", "(I)J"⟩ ∈ ab_tbl := (ab_mem (List.mem_append_right _ (List.mem_of_getElem? (i := 587) rfl)) rfl)
set_option maxRecDepth 20000 in
theorem lk_La_109 : Cond.methodLink "HiddenRowsLaw" 109 ⟨"HiddenRowsModel", "treeBest", "(I)J"⟩ ∈ ab_tbl := (ab_mem (List.mem_append_right _ (List.mem_of_getElem? (i := 885) rfl)) rfl)
set_option maxRecDepth 20000 in
theorem lk_La_110 : Cond.methodLink "HiddenRowsLaw" 110 ⟨"HiddenRows", "treeAt", "(II)I"⟩ ∈ ab_tbl := (ab_mem (List.mem_append_right _ (List.mem_of_getElem? (i := 595) rfl)) rfl)
set_option maxRecDepth 20000 in
theorem lk_La_113 : Cond.methodLink "HiddenRowsLaw" 113 ⟨"HiddenRowsModel", "treeAt", "(II)I"⟩ ∈ ab_tbl := (ab_mem (List.mem_append_right _ (List.mem_of_getElem? (i := 890) rfl)) rfl)
set_option maxRecDepth 20000 in
theorem lk_La_114 : Cond.methodLink "HiddenRowsLaw" 114 ⟨"HiddenRows", "span", "(IIIII)J"⟩ ∈ ab_tbl := (ab_mem (List.mem_append_right _ (List.mem_of_getElem? (i := 615) rfl)) rfl)
set_option maxRecDepth 20000 in
theorem lk_La_118 : Cond.methodLink "HiddenRowsLaw" 118 ⟨"HiddenRowsModel", "span", "(IIIII)J"⟩ ∈ ab_tbl := (ab_mem (List.mem_append_right _ (List.mem_of_getElem? (i := 898) rfl)) rfl)
set_option maxRecDepth 20000 in
theorem lk_Mo_1 : Cond.methodLink "HiddenRowsModel" 1 ⟨"java/lang/Object", "<init>", "()V"⟩ ∈ ab_tbl := (ab_mem (List.mem_append_right _ (List.mem_of_getElem? (i := 636) rfl)) rfl)
set_option maxRecDepth 20000 in
theorem lk_Mo_85 : Cond.methodLink "HiddenRowsModel" 85 ⟨"HiddenRowsModel", "change", "()V"⟩ ∈ ab_tbl := (ab_mem (List.mem_append_right _ (List.mem_of_getElem? (i := 723) rfl)) rfl)
set_option maxRecDepth 20000 in
theorem lk_Mo_88 : Cond.methodLink "HiddenRowsModel" 88 ⟨"HiddenRowsModel", "isState", "(I)Z"⟩ ∈ ab_tbl := (ab_mem (List.mem_append_right _ (List.mem_of_getElem? (i := 731) rfl)) rfl)
set_option maxRecDepth 20000 in
theorem lk_Mo_92 : Cond.methodLink "HiddenRowsModel" 92 ⟨"HiddenRowsModel", "isWeight", "(I)Z"⟩ ∈ ab_tbl := (ab_mem (List.mem_append_right _ (List.mem_of_getElem? (i := 735) rfl)) rfl)
set_option maxRecDepth 20000 in
theorem lk_Mo_95 : Cond.methodLink "HiddenRowsModel" 95 ⟨"HiddenRowsModel", "isKind", "(I)Z"⟩ ∈ ab_tbl := (ab_mem (List.mem_append_right _ (List.mem_of_getElem? (i := 750) rfl)) rfl)
set_option maxRecDepth 20000 in
theorem lk_Mo_98 : Cond.methodLink "HiddenRowsModel" 98 ⟨"HiddenRowsModel", "isPlace", "(I)Z"⟩ ∈ ab_tbl := (ab_mem (List.mem_append_right _ (List.mem_of_getElem? (i := 770) rfl)) rfl)
set_option maxRecDepth 20000 in
theorem lk_Mo_101 : Cond.methodLink "HiddenRowsModel" 101 ⟨"HiddenRowsModel", "stay", "(I)I"⟩ ∈ ab_tbl := (ab_mem (List.mem_append_right _ (List.mem_of_getElem? (i := 790) rfl)) rfl)
set_option maxRecDepth 20000 in
theorem lk_Mo_105 : Cond.methodLink "HiddenRowsModel" 105 ⟨"HiddenRowsModel", "show", "(II)I"⟩ ∈ ab_tbl := (ab_mem (List.mem_append_right _ (List.mem_of_getElem? (i := 798) rfl)) rfl)
set_option maxRecDepth 20000 in
theorem lk_Mo_109 : Cond.methodLink "HiddenRowsModel" 109 ⟨"HiddenRowsModel", "canBe", "(II)Z"⟩ ∈ ab_tbl := (ab_mem (List.mem_append_right _ (List.mem_of_getElem? (i := 786) rfl)) rfl)
set_option maxRecDepth 20000 in
theorem lk_Mo_123 : Cond.methodLink "HiddenRowsModel" 123 ⟨"HiddenRowsModel", "next", "(Z)Z"⟩ ∈ ab_tbl := (ab_mem (List.mem_append_right _ (List.mem_of_getElem? (i := 782) rfl)) rfl)
set_option maxRecDepth 20000 in
theorem lk_Mo_127 : Cond.methodLink "HiddenRowsModel" 127 ⟨"HiddenRowsModel", "weightOf", "()J"⟩ ∈ ab_tbl := (ab_mem (List.mem_append_right _ (List.mem_of_getElem? (i := 794) rfl)) rfl)
set_option maxRecDepth 20000 in
theorem lk_Mo_131 : Cond.methodLink "HiddenRowsModel" 131 ⟨"HiddenRowsModel", "add", "(J)V"⟩ ∈ ab_tbl := (ab_mem (List.mem_append_right _ (List.mem_of_getElem? (i := 802) rfl)) rfl)
set_option maxRecDepth 20000 in
theorem lk_Mo_135 : Cond.methodLink "HiddenRowsModel" 135 ⟨"HiddenRowsModel", "keep", "(J)V"⟩ ∈ ab_tbl := (ab_mem (List.mem_append_right _ (List.mem_of_getElem? (i := 806) rfl)) rfl)
set_option maxRecDepth 20000 in
theorem lk_Mo_138 : Cond.methodLink "HiddenRowsModel" 138 ⟨"HiddenRowsModel", "know", "()V"⟩ ∈ ab_tbl := (ab_mem (List.mem_append_right _ (List.mem_of_getElem? (i := 778) rfl)) rfl)
set_option maxRecDepth 20000 in
theorem lk_Mo_141 : Cond.methodLink "HiddenRowsModel" 141 ⟨"HiddenRowsModel", "common", "(JJ)J"⟩ ∈ ab_tbl := (ab_mem (List.mem_append_right _ (List.mem_of_getElem? (i := 824) rfl)) rfl)
set_option maxRecDepth 20000 in
theorem lk_Mo_151 : Cond.methodLink "HiddenRowsModel" 151 ⟨"HiddenRowsModel", "lowest", "(JJI)J"⟩ ∈ ab_tbl := (ab_mem (List.mem_append_right _ (List.mem_of_getElem? (i := 821) rfl)) rfl)
set_option maxRecDepth 20000 in
theorem lk_Mo_159 : Cond.methodLink "HiddenRowsModel" 159 ⟨"HiddenRowsModel", "findSpan", "(III)V"⟩ ∈ ab_tbl := (ab_mem (List.mem_append_right _ (List.mem_of_getElem? (i := 866) rfl)) rfl)
set_option maxRecDepth 20000 in
theorem lk_Mo_163 : Cond.methodLink "HiddenRowsModel" 163 ⟨"HiddenRowsModel", "at", "(III)I"⟩ ∈ ab_tbl := (ab_mem (List.mem_append_right _ (List.mem_of_getElem? (i := 870) rfl)) rfl)
set_option maxRecDepth 20000 in
theorem lk_Mo_167 : Cond.methodLink "HiddenRowsModel" 167 ⟨"HiddenRowsModel", "leafOf", "(II)J"⟩ ∈ ab_tbl := (ab_mem (List.mem_append_right _ (List.mem_of_getElem? (i := 873) rfl)) rfl)
set_option maxRecDepth 20000 in
theorem lk_Mo_171 : Cond.methodLink "HiddenRowsModel" 171 ⟨"HiddenRowsModel", "findTrees", "(III)V"⟩ ∈ ab_tbl := (ab_mem (List.mem_append_right _ (List.mem_of_getElem? (i := 862) rfl)) rfl)
set_option maxRecDepth 20000 in
theorem lk_Mo_174 : Cond.methodLink "HiddenRowsModel" 174 ⟨"HiddenRowsModel", "whole", "(I)I"⟩ ∈ ab_tbl := (ab_mem (List.mem_append_right _ (List.mem_of_getElem? (i := 877) rfl)) rfl)
set_option maxRecDepth 20000 in
theorem lk_Mo_177 : Cond.methodLink "HiddenRowsModel" 177 ⟨"HiddenRowsModel", "trees", "(I)J"⟩ ∈ ab_tbl := (ab_mem (List.mem_append_right _ (List.mem_of_getElem? (i := 889) rfl)) rfl)
set_option maxRecDepth 20000 in
theorem lk_Mo_181 : Cond.methodLink "HiddenRowsModel" 181 ⟨"HiddenRowsModel", "leastOf", "(III)I"⟩ ∈ ab_tbl := (ab_mem (List.mem_append_right _ (List.mem_of_getElem? (i := 894) rfl)) rfl)
theorem in_H : Cond.initialized "HiddenRows" ∈ ab_tbl := (ab_mem (List.mem_append_right _ (List.mem_of_getElem? (i := 1) rfl)) rfl)
theorem it_H : Cond.instantiable "HiddenRows" 8 ∈ ab_tbl := (ab_mem (List.mem_append_right _ (List.mem_of_getElem? (i := 13) rfl)) rfl)
theorem in_Ro : Cond.initialized "HiddenRows$Row" ∈ ab_tbl := (ab_mem (List.mem_append_right _ (List.mem_of_getElem? (i := 2) rfl)) rfl)
theorem it_Ro : Cond.instantiable "HiddenRows$Row" 3 ∈ ab_tbl := (ab_mem (List.mem_append_right _ (List.mem_of_getElem? (i := 21) rfl)) rfl)
theorem in_St : Cond.initialized "HiddenRows$States" ∈ ab_tbl := (ab_mem (List.mem_append_right _ (List.mem_of_getElem? (i := 3) rfl)) rfl)
theorem it_St : Cond.instantiable "HiddenRows$States" 3 ∈ ab_tbl := (ab_mem (List.mem_append_right _ (List.mem_of_getElem? (i := 47) rfl)) rfl)
theorem in_Ws : Cond.initialized "HiddenRows$WaySums" ∈ ab_tbl := (ab_mem (List.mem_append_right _ (List.mem_of_getElem? (i := 4) rfl)) rfl)
theorem it_Ws : Cond.instantiable "HiddenRows$WaySums" 9 ∈ ab_tbl := (ab_mem (List.mem_append_right _ (List.mem_of_getElem? (i := 77) rfl)) rfl)
theorem in_Bw : Cond.initialized "HiddenRows$BestWays" ∈ ab_tbl := (ab_mem (List.mem_append_right _ (List.mem_of_getElem? (i := 5) rfl)) rfl)
theorem it_Bw : Cond.instantiable "HiddenRows$BestWays" 6 ∈ ab_tbl := (ab_mem (List.mem_append_right _ (List.mem_of_getElem? (i := 117) rfl)) rfl)
theorem in_Wl : Cond.initialized "HiddenRows$WayList" ∈ ab_tbl := (ab_mem (List.mem_append_right _ (List.mem_of_getElem? (i := 6) rfl)) rfl)
theorem it_Wl : Cond.instantiable "HiddenRows$WayList" 3 ∈ ab_tbl := (ab_mem (List.mem_append_right _ (List.mem_of_getElem? (i := 124) rfl)) rfl)
theorem in_Dr : Cond.initialized "HiddenRows$Drawing" ∈ ab_tbl := (ab_mem (List.mem_append_right _ (List.mem_of_getElem? (i := 7) rfl)) rfl)
theorem it_Dr : Cond.instantiable "HiddenRows$Drawing" 9 ∈ ab_tbl := (ab_mem (List.mem_append_right _ (List.mem_of_getElem? (i := 166) rfl)) rfl)
theorem in_Ki : Cond.initialized "HiddenRows$Kinds" ∈ ab_tbl := (ab_mem (List.mem_append_right _ (List.mem_of_getElem? (i := 8) rfl)) rfl)
theorem it_Ki : Cond.instantiable "HiddenRows$Kinds" 3 ∈ ab_tbl := (ab_mem (List.mem_append_right _ (List.mem_of_getElem? (i := 202) rfl)) rfl)
theorem in_Tt : Cond.initialized "HiddenRows$TreeTables" ∈ ab_tbl := (ab_mem (List.mem_append_right _ (List.mem_of_getElem? (i := 9) rfl)) rfl)
theorem it_Tt : Cond.instantiable "HiddenRows$TreeTables" 10 ∈ ab_tbl := (ab_mem (List.mem_append_right _ (List.mem_of_getElem? (i := 224) rfl)) rfl)
theorem in_Mo : Cond.initialized "HiddenRowsModel" ∈ ab_tbl := (ab_mem (List.mem_append_right _ (List.mem_of_getElem? (i := 10) rfl)) rfl)
set_option maxRecDepth 20000 in
theorem it_Mo : Cond.instantiable "HiddenRowsModel" 27 ∈ ab_tbl := (ab_mem (List.mem_append_right _ (List.mem_of_getElem? (i := 632) rfl)) rfl)
theorem ac_int : Cond.arrayClass .int ∈ ab_tbl := (ab_mem (List.mem_append_right _ (List.mem_of_getElem? (i := 45) rfl)) rfl)
theorem ac_long : Cond.arrayClass .long ∈ ab_tbl := (ab_mem (List.mem_append_right _ (List.mem_of_getElem? (i := 115) rfl)) rfl)
theorem im_obj : Cond.instanceMethod objectInit ∈ ab_tbl := (ab_mem (List.mem_append_right _ (List.mem_of_getElem? (i := 18) rfl)) rfl)
theorem co_obj : Cond.code objectInit ⟨#[0xb1]⟩ 1 none ∈ ab_tbl := (ab_mem (List.mem_append_right _ (List.mem_of_getElem? (i := 19) rfl)) rfl)
theorem fb_H_init : ab_B y_H_init b_H_init 1 none 0 := ⟨(ab_mem (List.mem_append_right _ (List.mem_of_getElem? (i := 16) rfl)) rfl), in_H, by decide +kernel⟩
theorem im_H_init : Cond.instanceMethod y_H_init ∈ ab_tbl := (ab_mem (List.mem_append_right _ (List.mem_of_getElem? (i := 15) rfl)) rfl)
theorem fb_Ro_init : ab_B y_Ro_init b_Ro_init 1 none 0 := ⟨(ab_mem (List.mem_append_right _ (List.mem_of_getElem? (i := 24) rfl)) rfl), in_Ro, by decide +kernel⟩
theorem im_Ro_init : Cond.instanceMethod y_Ro_init ∈ ab_tbl := (ab_mem (List.mem_append_right _ (List.mem_of_getElem? (i := 23) rfl)) rfl)
theorem fb_St_init : ab_B y_St_init b_St_init 1 none 0 := ⟨(ab_mem (List.mem_append_right _ (List.mem_of_getElem? (i := 50) rfl)) rfl), in_St, by decide +kernel⟩
theorem im_St_init : Cond.instanceMethod y_St_init ∈ ab_tbl := (ab_mem (List.mem_append_right _ (List.mem_of_getElem? (i := 49) rfl)) rfl)
theorem fb_Ws_init : ab_B y_Ws_init b_Ws_init 4 none 3 := ⟨(ab_mem (List.mem_append_right _ (List.mem_of_getElem? (i := 81) rfl)) rfl), in_Ws, by decide +kernel⟩
theorem im_Ws_init : Cond.instanceMethod y_Ws_init ∈ ab_tbl := (ab_mem (List.mem_append_right _ (List.mem_of_getElem? (i := 80) rfl)) rfl)
theorem fb_Bw_init : ab_B y_Bw_init b_Bw_init 5 none 3 := ⟨(ab_mem (List.mem_append_right _ (List.mem_of_getElem? (i := 120) rfl)) rfl), in_Bw, by decide +kernel⟩
theorem im_Bw_init : Cond.instanceMethod y_Bw_init ∈ ab_tbl := (ab_mem (List.mem_append_right _ (List.mem_of_getElem? (i := 119) rfl)) rfl)
theorem fb_Wl_init : ab_B y_Wl_init b_Wl_init 1 none 0 := ⟨(ab_mem (List.mem_append_right _ (List.mem_of_getElem? (i := 127) rfl)) rfl), in_Wl, by decide +kernel⟩
theorem im_Wl_init : Cond.instanceMethod y_Wl_init ∈ ab_tbl := (ab_mem (List.mem_append_right _ (List.mem_of_getElem? (i := 126) rfl)) rfl)
theorem fb_Dr_init : ab_B y_Dr_init b_Dr_init 4 none 3 := ⟨(ab_mem (List.mem_append_right _ (List.mem_of_getElem? (i := 169) rfl)) rfl), in_Dr, by decide +kernel⟩
theorem im_Dr_init : Cond.instanceMethod y_Dr_init ∈ ab_tbl := (ab_mem (List.mem_append_right _ (List.mem_of_getElem? (i := 168) rfl)) rfl)
theorem fb_Ki_init : ab_B y_Ki_init b_Ki_init 1 none 0 := ⟨(ab_mem (List.mem_append_right _ (List.mem_of_getElem? (i := 205) rfl)) rfl), in_Ki, by decide +kernel⟩
theorem im_Ki_init : Cond.instanceMethod y_Ki_init ∈ ab_tbl := (ab_mem (List.mem_append_right _ (List.mem_of_getElem? (i := 204) rfl)) rfl)
theorem fb_Tt_init : ab_B y_Tt_init b_Tt_init 3 none 2 := ⟨(ab_mem (List.mem_append_right _ (List.mem_of_getElem? (i := 227) rfl)) rfl), in_Tt, by decide +kernel⟩
theorem im_Tt_init : Cond.instanceMethod y_Tt_init ∈ ab_tbl := (ab_mem (List.mem_append_right _ (List.mem_of_getElem? (i := 226) rfl)) rfl)
theorem fb_H_state : ab_B y_H_state b_H_state 1 (some .int) 0 := ⟨(ab_mem (List.mem_append_right _ (List.mem_of_getElem? (i := 290) rfl)) rfl), in_H, by decide +kernel⟩
theorem im_H_state : Cond.instanceMethod y_H_state ∈ ab_tbl := (ab_mem (List.mem_append_right _ (List.mem_of_getElem? (i := 288) rfl)) rfl)
theorem se_H_state : Cond.selects "HiddenRows" y_H_state y_H_state ∈ ab_tbl := (ab_mem (List.mem_append_right _ (List.mem_of_getElem? (i := 289) rfl)) rfl)
theorem fb_H_forgetWays : ab_B y_H_forgetWays b_H_forgetWays 1 none 0 := ⟨(ab_mem (List.mem_append_right _ (List.mem_of_getElem? (i := 294) rfl)) rfl), in_H, by decide +kernel⟩
theorem im_H_forgetWays : Cond.instanceMethod y_H_forgetWays ∈ ab_tbl := (ab_mem (List.mem_append_right _ (List.mem_of_getElem? (i := 293) rfl)) rfl)
theorem se_H_forgetWays : Cond.selects "HiddenRows" y_H_forgetWays y_H_forgetWays ∈ ab_tbl := (ab_mem (List.mem_append_left _ (List.mem_of_getElem? (i := 0) rfl)) rfl)
theorem fb_St_addOne : ab_B y_St_addOne b_St_addOne 1 (some .int) 0 := ⟨(ab_mem (List.mem_append_right _ (List.mem_of_getElem? (i := 298) rfl)) rfl), in_St, by decide +kernel⟩
theorem im_St_addOne : Cond.instanceMethod y_St_addOne ∈ ab_tbl := (ab_mem (List.mem_append_right _ (List.mem_of_getElem? (i := 296) rfl)) rfl)
theorem se_St_addOne : Cond.selects "HiddenRows$States" y_St_addOne y_St_addOne ∈ ab_tbl := (ab_mem (List.mem_append_right _ (List.mem_of_getElem? (i := 297) rfl)) rfl)
theorem fb_H_weight : ab_B y_H_weight b_H_weight 5 (some .int) 3 := ⟨(ab_mem (List.mem_append_right _ (List.mem_of_getElem? (i := 302) rfl)) rfl), in_H, by decide +kernel⟩
theorem im_H_weight : Cond.instanceMethod y_H_weight ∈ ab_tbl := (ab_mem (List.mem_append_right _ (List.mem_of_getElem? (i := 300) rfl)) rfl)
theorem se_H_weight : Cond.selects "HiddenRows" y_H_weight y_H_weight ∈ ab_tbl := (ab_mem (List.mem_append_right _ (List.mem_of_getElem? (i := 301) rfl)) rfl)
theorem fb_St_has : ab_B y_St_has b_St_has 2 (some .boolean) 1 := ⟨(ab_mem (List.mem_append_right _ (List.mem_of_getElem? (i := 306) rfl)) rfl), in_St, by decide +kernel⟩
theorem im_St_has : Cond.instanceMethod y_St_has ∈ ab_tbl := (ab_mem (List.mem_append_right _ (List.mem_of_getElem? (i := 304) rfl)) rfl)
theorem se_St_has : Cond.selects "HiddenRows$States" y_St_has y_St_has ∈ ab_tbl := (ab_mem (List.mem_append_right _ (List.mem_of_getElem? (i := 305) rfl)) rfl)
theorem fb_H_isWeight : ab_B y_H_isWeight b_H_isWeight 1 (some .boolean) 1 := ⟨(ab_mem (List.mem_append_right _ (List.mem_of_getElem? (i := 309) rfl)) rfl), in_H, by decide +kernel⟩
theorem sm_H_isWeight : Cond.static y_H_isWeight ∈ ab_tbl := (ab_mem (List.mem_append_right _ (List.mem_of_getElem? (i := 308) rfl)) rfl)
theorem fb_H_move : ab_B y_H_move b_H_move 5 (some .int) 3 := ⟨(ab_mem (List.mem_append_right _ (List.mem_of_getElem? (i := 313) rfl)) rfl), in_H, by decide +kernel⟩
theorem im_H_move : Cond.instanceMethod y_H_move ∈ ab_tbl := (ab_mem (List.mem_append_right _ (List.mem_of_getElem? (i := 311) rfl)) rfl)
theorem se_H_move : Cond.selects "HiddenRows" y_H_move y_H_move ∈ ab_tbl := (ab_mem (List.mem_append_right _ (List.mem_of_getElem? (i := 312) rfl)) rfl)
theorem fb_H_kind : ab_B y_H_kind b_H_kind 1 (some .int) 0 := ⟨(ab_mem (List.mem_append_right _ (List.mem_of_getElem? (i := 317) rfl)) rfl), in_H, by decide +kernel⟩
theorem im_H_kind : Cond.instanceMethod y_H_kind ∈ ab_tbl := (ab_mem (List.mem_append_right _ (List.mem_of_getElem? (i := 315) rfl)) rfl)
theorem se_H_kind : Cond.selects "HiddenRows" y_H_kind y_H_kind ∈ ab_tbl := (ab_mem (List.mem_append_right _ (List.mem_of_getElem? (i := 316) rfl)) rfl)
theorem fb_H_forgetTrees : ab_B y_H_forgetTrees b_H_forgetTrees 1 none 0 := ⟨(ab_mem (List.mem_append_right _ (List.mem_of_getElem? (i := 321) rfl)) rfl), in_H, by decide +kernel⟩
theorem im_H_forgetTrees : Cond.instanceMethod y_H_forgetTrees ∈ ab_tbl := (ab_mem (List.mem_append_right _ (List.mem_of_getElem? (i := 320) rfl)) rfl)
theorem se_H_forgetTrees : Cond.selects "HiddenRows" y_H_forgetTrees y_H_forgetTrees ∈ ab_tbl := (ab_mem (List.mem_append_left _ (List.mem_of_getElem? (i := 1) rfl)) rfl)
theorem fb_H_rule : ab_B y_H_rule b_H_rule 7 (some .int) 4 := ⟨(ab_mem (List.mem_append_right _ (List.mem_of_getElem? (i := 325) rfl)) rfl), in_H, by decide +kernel⟩
theorem im_H_rule : Cond.instanceMethod y_H_rule ∈ ab_tbl := (ab_mem (List.mem_append_right _ (List.mem_of_getElem? (i := 323) rfl)) rfl)
theorem se_H_rule : Cond.selects "HiddenRows" y_H_rule y_H_rule ∈ ab_tbl := (ab_mem (List.mem_append_right _ (List.mem_of_getElem? (i := 324) rfl)) rfl)
theorem fb_Ki_has : ab_B y_Ki_has b_Ki_has 2 (some .boolean) 1 := ⟨(ab_mem (List.mem_append_right _ (List.mem_of_getElem? (i := 329) rfl)) rfl), in_Ki, by decide +kernel⟩
theorem im_Ki_has : Cond.instanceMethod y_Ki_has ∈ ab_tbl := (ab_mem (List.mem_append_right _ (List.mem_of_getElem? (i := 327) rfl)) rfl)
theorem se_Ki_has : Cond.selects "HiddenRows$Kinds" y_Ki_has y_Ki_has ∈ ab_tbl := (ab_mem (List.mem_append_right _ (List.mem_of_getElem? (i := 328) rfl)) rfl)
theorem fb_Ki_parts : ab_B y_Ki_parts b_Ki_parts 2 (some .int) 2 := ⟨(ab_mem (List.mem_append_right _ (List.mem_of_getElem? (i := 332) rfl)) rfl), in_Ki, by decide +kernel⟩
theorem sm_Ki_parts : Cond.static y_Ki_parts ∈ ab_tbl := (ab_mem (List.mem_append_right _ (List.mem_of_getElem? (i := 331) rfl)) rfl)
theorem fb_H_leaf : ab_B y_H_leaf b_H_leaf 5 (some .int) 3 := ⟨(ab_mem (List.mem_append_right _ (List.mem_of_getElem? (i := 336) rfl)) rfl), in_H, by decide +kernel⟩
theorem im_H_leaf : Cond.instanceMethod y_H_leaf ∈ ab_tbl := (ab_mem (List.mem_append_right _ (List.mem_of_getElem? (i := 334) rfl)) rfl)
theorem se_H_leaf : Cond.selects "HiddenRows" y_H_leaf y_H_leaf ∈ ab_tbl := (ab_mem (List.mem_append_right _ (List.mem_of_getElem? (i := 335) rfl)) rfl)
theorem fb_H_sign : ab_B y_H_sign b_H_sign 2 (some .int) 1 := ⟨(ab_mem (List.mem_append_right _ (List.mem_of_getElem? (i := 340) rfl)) rfl), in_H, by decide +kernel⟩
theorem im_H_sign : Cond.instanceMethod y_H_sign ∈ ab_tbl := (ab_mem (List.mem_append_right _ (List.mem_of_getElem? (i := 338) rfl)) rfl)
theorem se_H_sign : Cond.selects "HiddenRows" y_H_sign y_H_sign ∈ ab_tbl := (ab_mem (List.mem_append_right _ (List.mem_of_getElem? (i := 339) rfl)) rfl)
theorem fb_Ro_append : ab_B y_Ro_append b_Ro_append 2 none 1 := ⟨(ab_mem (List.mem_append_right _ (List.mem_of_getElem? (i := 344) rfl)) rfl), in_Ro, by decide +kernel⟩
theorem im_Ro_append : Cond.instanceMethod y_Ro_append ∈ ab_tbl := (ab_mem (List.mem_append_right _ (List.mem_of_getElem? (i := 342) rfl)) rfl)
theorem se_Ro_append : Cond.selects "HiddenRows$Row" y_Ro_append y_Ro_append ∈ ab_tbl := (ab_mem (List.mem_append_right _ (List.mem_of_getElem? (i := 343) rfl)) rfl)
theorem fb_H_clear : ab_B y_H_clear b_H_clear 2 (some .int) 0 := ⟨(ab_mem (List.mem_append_right _ (List.mem_of_getElem? (i := 348) rfl)) rfl), in_H, by decide +kernel⟩
theorem im_H_clear : Cond.instanceMethod y_H_clear ∈ ab_tbl := (ab_mem (List.mem_append_right _ (List.mem_of_getElem? (i := 346) rfl)) rfl)
theorem se_H_clear : Cond.selects "HiddenRows" y_H_clear y_H_clear ∈ ab_tbl := (ab_mem (List.mem_append_right _ (List.mem_of_getElem? (i := 347) rfl)) rfl)
theorem fb_H_hold : ab_B y_H_hold b_H_hold 4 (some .int) 2 := ⟨(ab_mem (List.mem_append_right _ (List.mem_of_getElem? (i := 352) rfl)) rfl), in_H, by decide +kernel⟩
theorem im_H_hold : Cond.instanceMethod y_H_hold ∈ ab_tbl := (ab_mem (List.mem_append_right _ (List.mem_of_getElem? (i := 350) rfl)) rfl)
theorem se_H_hold : Cond.selects "HiddenRows" y_H_hold y_H_hold ∈ ab_tbl := (ab_mem (List.mem_append_right _ (List.mem_of_getElem? (i := 351) rfl)) rfl)
theorem fb_Ro_has : ab_B y_Ro_has b_Ro_has 2 (some .boolean) 1 := ⟨(ab_mem (List.mem_append_right _ (List.mem_of_getElem? (i := 356) rfl)) rfl), in_Ro, by decide +kernel⟩
theorem im_Ro_has : Cond.instanceMethod y_Ro_has ∈ ab_tbl := (ab_mem (List.mem_append_right _ (List.mem_of_getElem? (i := 354) rfl)) rfl)
theorem se_Ro_has : Cond.selects "HiddenRows$Row" y_Ro_has y_Ro_has ∈ ab_tbl := (ab_mem (List.mem_append_right _ (List.mem_of_getElem? (i := 355) rfl)) rfl)
theorem fb_H_total : ab_B y_H_total b_H_total 1 (some .long) 0 := ⟨(ab_mem (List.mem_append_right _ (List.mem_of_getElem? (i := 360) rfl)) rfl), in_H, by decide +kernel⟩
theorem im_H_total : Cond.instanceMethod y_H_total ∈ ab_tbl := (ab_mem (List.mem_append_right _ (List.mem_of_getElem? (i := 358) rfl)) rfl)
theorem se_H_total : Cond.selects "HiddenRows" y_H_total y_H_total ∈ ab_tbl := (ab_mem (List.mem_append_right _ (List.mem_of_getElem? (i := 359) rfl)) rfl)
theorem fb_Ws_whole : ab_B y_Ws_whole b_Ws_whole 4 (some .long) 0 := ⟨(ab_mem (List.mem_append_right _ (List.mem_of_getElem? (i := 364) rfl)) rfl), in_Ws, by decide +kernel⟩
theorem im_Ws_whole : Cond.instanceMethod y_Ws_whole ∈ ab_tbl := (ab_mem (List.mem_append_right _ (List.mem_of_getElem? (i := 362) rfl)) rfl)
theorem se_Ws_whole : Cond.selects "HiddenRows$WaySums" y_Ws_whole y_Ws_whole ∈ ab_tbl := (ab_mem (List.mem_append_right _ (List.mem_of_getElem? (i := 363) rfl)) rfl)
theorem fb_Ws_refresh : ab_B y_Ws_refresh b_Ws_refresh 1 none 0 := ⟨(ab_mem (List.mem_append_right _ (List.mem_of_getElem? (i := 368) rfl)) rfl), in_Ws, by decide +kernel⟩
theorem im_Ws_refresh : Cond.instanceMethod y_Ws_refresh ∈ ab_tbl := (ab_mem (List.mem_append_right _ (List.mem_of_getElem? (i := 366) rfl)) rfl)
theorem se_Ws_refresh : Cond.selects "HiddenRows$WaySums" y_Ws_refresh y_Ws_refresh ∈ ab_tbl := (ab_mem (List.mem_append_right _ (List.mem_of_getElem? (i := 367) rfl)) rfl)
theorem fb_Ws_showPlaces : ab_B y_Ws_showPlaces b_Ws_showPlaces 3 none 0 := ⟨(ab_mem (List.mem_append_right _ (List.mem_of_getElem? (i := 372) rfl)) rfl), in_Ws, by decide +kernel⟩
theorem im_Ws_showPlaces : Cond.instanceMethod y_Ws_showPlaces ∈ ab_tbl := (ab_mem (List.mem_append_right _ (List.mem_of_getElem? (i := 371) rfl)) rfl)
theorem se_Ws_showPlaces : Cond.selects "HiddenRows$WaySums" y_Ws_showPlaces y_Ws_showPlaces ∈ ab_tbl := (ab_mem (List.mem_append_left _ (List.mem_of_getElem? (i := 2) rfl)) rfl)
theorem fb_Ws_showOf : ab_B y_Ws_showOf b_Ws_showOf 7 (some .long) 2 := ⟨(ab_mem (List.mem_append_right _ (List.mem_of_getElem? (i := 376) rfl)) rfl), in_Ws, by decide +kernel⟩
theorem im_Ws_showOf : Cond.instanceMethod y_Ws_showOf ∈ ab_tbl := (ab_mem (List.mem_append_right _ (List.mem_of_getElem? (i := 375) rfl)) rfl)
theorem se_Ws_showOf : Cond.selects "HiddenRows$WaySums" y_Ws_showOf y_Ws_showOf ∈ ab_tbl := (ab_mem (List.mem_append_left _ (List.mem_of_getElem? (i := 3) rfl)) rfl)
theorem fb_Ws_cut : ab_B y_Ws_cut b_Ws_cut 2 (some .long) 1 := ⟨(ab_mem (List.mem_append_right _ (List.mem_of_getElem? (i := 380) rfl)) rfl), in_Ws, by decide +kernel⟩
theorem im_Ws_cut : Cond.instanceMethod y_Ws_cut ∈ ab_tbl := (ab_mem (List.mem_append_right _ (List.mem_of_getElem? (i := 379) rfl)) rfl)
theorem se_Ws_cut : Cond.selects "HiddenRows$WaySums" y_Ws_cut y_Ws_cut ∈ ab_tbl := (ab_mem (List.mem_append_left _ (List.mem_of_getElem? (i := 4) rfl)) rfl)
theorem fb_Ws_sumFromBehind : ab_B y_Ws_sumFromBehind b_Ws_sumFromBehind 3 none 0 := ⟨(ab_mem (List.mem_append_right _ (List.mem_of_getElem? (i := 384) rfl)) rfl), in_Ws, by decide +kernel⟩
theorem im_Ws_sumFromBehind : Cond.instanceMethod y_Ws_sumFromBehind ∈ ab_tbl := (ab_mem (List.mem_append_right _ (List.mem_of_getElem? (i := 383) rfl)) rfl)
theorem se_Ws_sumFromBehind : Cond.selects "HiddenRows$WaySums" y_Ws_sumFromBehind y_Ws_sumFromBehind ∈ ab_tbl := (ab_mem (List.mem_append_left _ (List.mem_of_getElem? (i := 5) rfl)) rfl)
theorem fb_Ws_longerThan : ab_B y_Ws_longerThan b_Ws_longerThan 7 (some .long) 3 := ⟨(ab_mem (List.mem_append_right _ (List.mem_of_getElem? (i := 388) rfl)) rfl), in_Ws, by decide +kernel⟩
theorem im_Ws_longerThan : Cond.instanceMethod y_Ws_longerThan ∈ ab_tbl := (ab_mem (List.mem_append_right _ (List.mem_of_getElem? (i := 386) rfl)) rfl)
theorem se_Ws_longerThan : Cond.selects "HiddenRows$WaySums" y_Ws_longerThan y_Ws_longerThan ∈ ab_tbl := (ab_mem (List.mem_append_right _ (List.mem_of_getElem? (i := 387) rfl)) rfl)
theorem fb_Ws_segment : ab_B y_Ws_segment b_Ws_segment 7 (some .long) 3 := ⟨(ab_mem (List.mem_append_right _ (List.mem_of_getElem? (i := 392) rfl)) rfl), in_Ws, by decide +kernel⟩
theorem im_Ws_segment : Cond.instanceMethod y_Ws_segment ∈ ab_tbl := (ab_mem (List.mem_append_right _ (List.mem_of_getElem? (i := 390) rfl)) rfl)
theorem se_Ws_segment : Cond.selects "HiddenRows$WaySums" y_Ws_segment y_Ws_segment ∈ ab_tbl := (ab_mem (List.mem_append_right _ (List.mem_of_getElem? (i := 391) rfl)) rfl)
theorem fb_Ws_movedOutOf : ab_B y_Ws_movedOutOf b_Ws_movedOutOf 6 (some .long) 2 := ⟨(ab_mem (List.mem_append_right _ (List.mem_of_getElem? (i := 396) rfl)) rfl), in_Ws, by decide +kernel⟩
theorem im_Ws_movedOutOf : Cond.instanceMethod y_Ws_movedOutOf ∈ ab_tbl := (ab_mem (List.mem_append_right _ (List.mem_of_getElem? (i := 395) rfl)) rfl)
theorem se_Ws_movedOutOf : Cond.selects "HiddenRows$WaySums" y_Ws_movedOutOf y_Ws_movedOutOf ∈ ab_tbl := (ab_mem (List.mem_append_left _ (List.mem_of_getElem? (i := 6) rfl)) rfl)
theorem fb_Ws_sumFromAhead : ab_B y_Ws_sumFromAhead b_Ws_sumFromAhead 3 none 0 := ⟨(ab_mem (List.mem_append_right _ (List.mem_of_getElem? (i := 400) rfl)) rfl), in_Ws, by decide +kernel⟩
theorem im_Ws_sumFromAhead : Cond.instanceMethod y_Ws_sumFromAhead ∈ ab_tbl := (ab_mem (List.mem_append_right _ (List.mem_of_getElem? (i := 399) rfl)) rfl)
theorem se_Ws_sumFromAhead : Cond.selects "HiddenRows$WaySums" y_Ws_sumFromAhead y_Ws_sumFromAhead ∈ ab_tbl := (ab_mem (List.mem_append_left _ (List.mem_of_getElem? (i := 7) rfl)) rfl)
theorem fb_Ws_movedInto : ab_B y_Ws_movedInto b_Ws_movedInto 6 (some .long) 2 := ⟨(ab_mem (List.mem_append_right _ (List.mem_of_getElem? (i := 404) rfl)) rfl), in_Ws, by decide +kernel⟩
theorem im_Ws_movedInto : Cond.instanceMethod y_Ws_movedInto ∈ ab_tbl := (ab_mem (List.mem_append_right _ (List.mem_of_getElem? (i := 403) rfl)) rfl)
theorem se_Ws_movedInto : Cond.selects "HiddenRows$WaySums" y_Ws_movedInto y_Ws_movedInto ∈ ab_tbl := (ab_mem (List.mem_append_left _ (List.mem_of_getElem? (i := 8) rfl)) rfl)
theorem fb_Ws_endedBefore : ab_B y_Ws_endedBefore b_Ws_endedBefore 6 (some .long) 2 := ⟨(ab_mem (List.mem_append_right _ (List.mem_of_getElem? (i := 408) rfl)) rfl), in_Ws, by decide +kernel⟩
theorem im_Ws_endedBefore : Cond.instanceMethod y_Ws_endedBefore ∈ ab_tbl := (ab_mem (List.mem_append_right _ (List.mem_of_getElem? (i := 407) rfl)) rfl)
theorem se_Ws_endedBefore : Cond.selects "HiddenRows$WaySums" y_Ws_endedBefore y_Ws_endedBefore ∈ ab_tbl := (ab_mem (List.mem_append_left _ (List.mem_of_getElem? (i := 9) rfl)) rfl)
theorem fb_H_ways : ab_B y_H_ways b_H_ways 1 (some .int) 0 := ⟨(ab_mem (List.mem_append_right _ (List.mem_of_getElem? (i := 412) rfl)) rfl), in_H, by decide +kernel⟩
theorem im_H_ways : Cond.instanceMethod y_H_ways ∈ ab_tbl := (ab_mem (List.mem_append_right _ (List.mem_of_getElem? (i := 410) rfl)) rfl)
theorem se_H_ways : Cond.selects "HiddenRows" y_H_ways y_H_ways ∈ ab_tbl := (ab_mem (List.mem_append_right _ (List.mem_of_getElem? (i := 411) rfl)) rfl)
theorem fb_H_share : ab_B y_H_share b_H_share 4 (some .long) 3 := ⟨(ab_mem (List.mem_append_right _ (List.mem_of_getElem? (i := 416) rfl)) rfl), in_H, by decide +kernel⟩
theorem im_H_share : Cond.instanceMethod y_H_share ∈ ab_tbl := (ab_mem (List.mem_append_right _ (List.mem_of_getElem? (i := 414) rfl)) rfl)
theorem se_H_share : Cond.selects "HiddenRows" y_H_share y_H_share ∈ ab_tbl := (ab_mem (List.mem_append_right _ (List.mem_of_getElem? (i := 415) rfl)) rfl)
theorem fb_H_isPart : ab_B y_H_isPart b_H_isPart 1 (some .boolean) 1 := ⟨(ab_mem (List.mem_append_right _ (List.mem_of_getElem? (i := 420) rfl)) rfl), in_H, by decide +kernel⟩
theorem sm_H_isPart : Cond.static y_H_isPart ∈ ab_tbl := (ab_mem (List.mem_append_right _ (List.mem_of_getElem? (i := 419) rfl)) rfl)
theorem fb_Ws_over : ab_B y_Ws_over b_Ws_over 6 (some .long) 2 := ⟨(ab_mem (List.mem_append_right _ (List.mem_of_getElem? (i := 425) rfl)) rfl), in_Ws, by decide +kernel⟩
theorem im_Ws_over : Cond.instanceMethod y_Ws_over ∈ ab_tbl := (ab_mem (List.mem_append_right _ (List.mem_of_getElem? (i := 423) rfl)) rfl)
theorem se_Ws_over : Cond.selects "HiddenRows$WaySums" y_Ws_over y_Ws_over ∈ ab_tbl := (ab_mem (List.mem_append_right _ (List.mem_of_getElem? (i := 424) rfl)) rfl)
theorem fb_H_lowestTerms : ab_B y_H_lowestTerms b_H_lowestTerms 7 (some .long) 3 := ⟨(ab_mem (List.mem_append_right _ (List.mem_of_getElem? (i := 431) rfl)) rfl), in_H, by decide +kernel⟩
theorem sm_H_lowestTerms : Cond.static y_H_lowestTerms ∈ ab_tbl := (ab_mem (List.mem_append_right _ (List.mem_of_getElem? (i := 430) rfl)) rfl)
theorem fb_H_commonDivisor : ab_B y_H_commonDivisor b_H_commonDivisor 11 (some .long) 2 := ⟨(ab_mem (List.mem_append_right _ (List.mem_of_getElem? (i := 435) rfl)) rfl), in_H, by decide +kernel⟩
theorem sm_H_commonDivisor : Cond.static y_H_commonDivisor ∈ ab_tbl := (ab_mem (List.mem_append_right _ (List.mem_of_getElem? (i := 434) rfl)) rfl)
theorem fb_H_begin : ab_B y_H_begin b_H_begin 4 (some .long) 3 := ⟨(ab_mem (List.mem_append_right _ (List.mem_of_getElem? (i := 439) rfl)) rfl), in_H, by decide +kernel⟩
theorem im_H_begin : Cond.instanceMethod y_H_begin ∈ ab_tbl := (ab_mem (List.mem_append_right _ (List.mem_of_getElem? (i := 437) rfl)) rfl)
theorem se_H_begin : Cond.selects "HiddenRows" y_H_begin y_H_begin ∈ ab_tbl := (ab_mem (List.mem_append_right _ (List.mem_of_getElem? (i := 438) rfl)) rfl)
theorem fb_Ws_beginning : ab_B y_Ws_beginning b_Ws_beginning 3 (some .long) 2 := ⟨(ab_mem (List.mem_append_right _ (List.mem_of_getElem? (i := 443) rfl)) rfl), in_Ws, by decide +kernel⟩
theorem im_Ws_beginning : Cond.instanceMethod y_Ws_beginning ∈ ab_tbl := (ab_mem (List.mem_append_right _ (List.mem_of_getElem? (i := 441) rfl)) rfl)
theorem se_Ws_beginning : Cond.selects "HiddenRows$WaySums" y_Ws_beginning y_Ws_beginning ∈ ab_tbl := (ab_mem (List.mem_append_right _ (List.mem_of_getElem? (i := 442) rfl)) rfl)
theorem fb_H_pair : ab_B y_H_pair b_H_pair 5 (some .long) 4 := ⟨(ab_mem (List.mem_append_right _ (List.mem_of_getElem? (i := 447) rfl)) rfl), in_H, by decide +kernel⟩
theorem im_H_pair : Cond.instanceMethod y_H_pair ∈ ab_tbl := (ab_mem (List.mem_append_right _ (List.mem_of_getElem? (i := 445) rfl)) rfl)
theorem se_H_pair : Cond.selects "HiddenRows" y_H_pair y_H_pair ∈ ab_tbl := (ab_mem (List.mem_append_right _ (List.mem_of_getElem? (i := 446) rfl)) rfl)
set_option maxRecDepth 20000 in
theorem fb_Ws_moving : ab_B y_Ws_moving b_Ws_moving 4 (some .long) 3 := ⟨(ab_mem (List.mem_append_right _ (List.mem_of_getElem? (i := 451) rfl)) rfl), in_Ws, by decide +kernel⟩
theorem im_Ws_moving : Cond.instanceMethod y_Ws_moving ∈ ab_tbl := (ab_mem (List.mem_append_right _ (List.mem_of_getElem? (i := 449) rfl)) rfl)
theorem se_Ws_moving : Cond.selects "HiddenRows$WaySums" y_Ws_moving y_Ws_moving ∈ ab_tbl := (ab_mem (List.mem_append_right _ (List.mem_of_getElem? (i := 450) rfl)) rfl)
set_option maxRecDepth 20000 in
theorem fb_H_top : ab_B y_H_top b_H_top 4 (some .int) 1 := ⟨(ab_mem (List.mem_append_right _ (List.mem_of_getElem? (i := 455) rfl)) rfl), in_H, by decide +kernel⟩
set_option maxRecDepth 20000 in
theorem im_H_top : Cond.instanceMethod y_H_top ∈ ab_tbl := (ab_mem (List.mem_append_right _ (List.mem_of_getElem? (i := 453) rfl)) rfl)
set_option maxRecDepth 20000 in
theorem se_H_top : Cond.selects "HiddenRows" y_H_top y_H_top ∈ ab_tbl := (ab_mem (List.mem_append_right _ (List.mem_of_getElem? (i := 454) rfl)) rfl)
set_option maxRecDepth 20000 in
theorem fb_H_best : ab_B y_H_best b_H_best 3 (some .long) 1 := ⟨(ab_mem (List.mem_append_right _ (List.mem_of_getElem? (i := 459) rfl)) rfl), in_H, by decide +kernel⟩
set_option maxRecDepth 20000 in
theorem im_H_best : Cond.instanceMethod y_H_best ∈ ab_tbl := (ab_mem (List.mem_append_right _ (List.mem_of_getElem? (i := 457) rfl)) rfl)
set_option maxRecDepth 20000 in
theorem se_H_best : Cond.selects "HiddenRows" y_H_best y_H_best ∈ ab_tbl := (ab_mem (List.mem_append_right _ (List.mem_of_getElem? (i := 458) rfl)) rfl)
set_option maxRecDepth 20000 in
theorem fb_Bw_list : ab_B y_Bw_list b_Bw_list 3 (some (.object "HiddenRows$WayList")) 0 := ⟨(ab_mem (List.mem_append_right _ (List.mem_of_getElem? (i := 463) rfl)) rfl), in_Bw, by decide +kernel⟩
set_option maxRecDepth 20000 in
theorem im_Bw_list : Cond.instanceMethod y_Bw_list ∈ ab_tbl := (ab_mem (List.mem_append_right _ (List.mem_of_getElem? (i := 461) rfl)) rfl)
set_option maxRecDepth 20000 in
theorem se_Bw_list : Cond.selects "HiddenRows$BestWays" y_Bw_list y_Bw_list ∈ ab_tbl := (ab_mem (List.mem_append_right _ (List.mem_of_getElem? (i := 462) rfl)) rfl)
set_option maxRecDepth 20000 in
theorem fb_Bw_listEnds : ab_B y_Bw_listEnds b_Bw_listEnds 8 none 2 := ⟨(ab_mem (List.mem_append_right _ (List.mem_of_getElem? (i := 468) rfl)) rfl), in_Bw, by decide +kernel⟩
set_option maxRecDepth 20000 in
theorem im_Bw_listEnds : Cond.instanceMethod y_Bw_listEnds ∈ ab_tbl := (ab_mem (List.mem_append_right _ (List.mem_of_getElem? (i := 467) rfl)) rfl)
theorem se_Bw_listEnds : Cond.selects "HiddenRows$BestWays" y_Bw_listEnds y_Bw_listEnds ∈ ab_tbl := (ab_mem (List.mem_append_left _ (List.mem_of_getElem? (i := 10) rfl)) rfl)
set_option maxRecDepth 20000 in
theorem fb_Bw_endsFrom : ab_B y_Bw_endsFrom b_Bw_endsFrom 3 (some (.object "HiddenRows$WayList")) 2 := ⟨(ab_mem (List.mem_append_right _ (List.mem_of_getElem? (i := 472) rfl)) rfl), in_Bw, by decide +kernel⟩
set_option maxRecDepth 20000 in
theorem im_Bw_endsFrom : Cond.instanceMethod y_Bw_endsFrom ∈ ab_tbl := (ab_mem (List.mem_append_right _ (List.mem_of_getElem? (i := 471) rfl)) rfl)
theorem se_Bw_endsFrom : Cond.selects "HiddenRows$BestWays" y_Bw_endsFrom y_Bw_endsFrom ∈ ab_tbl := (ab_mem (List.mem_append_left _ (List.mem_of_getElem? (i := 11) rfl)) rfl)
set_option maxRecDepth 20000 in
theorem fb_Wl_offer : ab_B y_Wl_offer b_Wl_offer 6 (some .boolean) 2 := ⟨(ab_mem (List.mem_append_right _ (List.mem_of_getElem? (i := 477) rfl)) rfl), in_Wl, by decide +kernel⟩
set_option maxRecDepth 20000 in
theorem im_Wl_offer : Cond.instanceMethod y_Wl_offer ∈ ab_tbl := (ab_mem (List.mem_append_right _ (List.mem_of_getElem? (i := 475) rfl)) rfl)
set_option maxRecDepth 20000 in
theorem se_Wl_offer : Cond.selects "HiddenRows$WayList" y_Wl_offer y_Wl_offer ∈ ab_tbl := (ab_mem (List.mem_append_right _ (List.mem_of_getElem? (i := 476) rfl)) rfl)
set_option maxRecDepth 20000 in
theorem fb_Wl_isBetter : ab_B y_Wl_isBetter b_Wl_isBetter 5 (some .boolean) 3 := ⟨(ab_mem (List.mem_append_right _ (List.mem_of_getElem? (i := 481) rfl)) rfl), in_Wl, by decide +kernel⟩
set_option maxRecDepth 20000 in
theorem im_Wl_isBetter : Cond.instanceMethod y_Wl_isBetter ∈ ab_tbl := (ab_mem (List.mem_append_right _ (List.mem_of_getElem? (i := 480) rfl)) rfl)
theorem se_Wl_isBetter : Cond.selects "HiddenRows$WayList" y_Wl_isBetter y_Wl_isBetter ∈ ab_tbl := (ab_mem (List.mem_append_left _ (List.mem_of_getElem? (i := 12) rfl)) rfl)
set_option maxRecDepth 20000 in
theorem fb_Bw_offerMoves : ab_B y_Bw_offerMoves b_Bw_offerMoves 9 none 5 := ⟨(ab_mem (List.mem_append_right _ (List.mem_of_getElem? (i := 488) rfl)) rfl), in_Bw, by decide +kernel⟩
set_option maxRecDepth 20000 in
theorem im_Bw_offerMoves : Cond.instanceMethod y_Bw_offerMoves ∈ ab_tbl := (ab_mem (List.mem_append_right _ (List.mem_of_getElem? (i := 487) rfl)) rfl)
theorem se_Bw_offerMoves : Cond.selects "HiddenRows$BestWays" y_Bw_offerMoves y_Bw_offerMoves ∈ ab_tbl := (ab_mem (List.mem_append_left _ (List.mem_of_getElem? (i := 13) rfl)) rfl)
set_option maxRecDepth 20000 in
theorem fb_Bw_offerAll : ab_B y_Bw_offerAll b_Bw_offerAll 6 none 4 := ⟨(ab_mem (List.mem_append_right _ (List.mem_of_getElem? (i := 491) rfl)) rfl), in_Bw, by decide +kernel⟩
set_option maxRecDepth 20000 in
theorem sm_Bw_offerAll : Cond.static y_Bw_offerAll ∈ ab_tbl := (ab_mem (List.mem_append_right _ (List.mem_of_getElem? (i := 490) rfl)) rfl)
set_option maxRecDepth 20000 in
theorem fb_Bw_listWhole : ab_B y_Bw_listWhole b_Bw_listWhole 2 none 0 := ⟨(ab_mem (List.mem_append_right _ (List.mem_of_getElem? (i := 495) rfl)) rfl), in_Bw, by decide +kernel⟩
set_option maxRecDepth 20000 in
theorem im_Bw_listWhole : Cond.instanceMethod y_Bw_listWhole ∈ ab_tbl := (ab_mem (List.mem_append_right _ (List.mem_of_getElem? (i := 494) rfl)) rfl)
theorem se_Bw_listWhole : Cond.selects "HiddenRows$BestWays" y_Bw_listWhole y_Bw_listWhole ∈ ab_tbl := (ab_mem (List.mem_append_left _ (List.mem_of_getElem? (i := 14) rfl)) rfl)
set_option maxRecDepth 20000 in
theorem fb_H_bestAt : ab_B y_H_bestAt b_H_bestAt 4 (some .int) 2 := ⟨(ab_mem (List.mem_append_right _ (List.mem_of_getElem? (i := 499) rfl)) rfl), in_H, by decide +kernel⟩
set_option maxRecDepth 20000 in
theorem im_H_bestAt : Cond.instanceMethod y_H_bestAt ∈ ab_tbl := (ab_mem (List.mem_append_right _ (List.mem_of_getElem? (i := 497) rfl)) rfl)
set_option maxRecDepth 20000 in
theorem se_H_bestAt : Cond.selects "HiddenRows" y_H_bestAt y_H_bestAt ∈ ab_tbl := (ab_mem (List.mem_append_right _ (List.mem_of_getElem? (i := 498) rfl)) rfl)
set_option maxRecDepth 20000 in
theorem fb_Ro_toldAt : ab_B y_Ro_toldAt b_Ro_toldAt 3 (some .int) 2 := ⟨(ab_mem (List.mem_append_right _ (List.mem_of_getElem? (i := 503) rfl)) rfl), in_Ro, by decide +kernel⟩
set_option maxRecDepth 20000 in
theorem im_Ro_toldAt : Cond.instanceMethod y_Ro_toldAt ∈ ab_tbl := (ab_mem (List.mem_append_right _ (List.mem_of_getElem? (i := 501) rfl)) rfl)
set_option maxRecDepth 20000 in
theorem se_Ro_toldAt : Cond.selects "HiddenRows$Row" y_Ro_toldAt y_Ro_toldAt ∈ ab_tbl := (ab_mem (List.mem_append_right _ (List.mem_of_getElem? (i := 502) rfl)) rfl)
set_option maxRecDepth 20000 in
theorem fb_H_drawn : ab_B y_H_drawn b_H_drawn 4 (some .long) 1 := ⟨(ab_mem (List.mem_append_right _ (List.mem_of_getElem? (i := 507) rfl)) rfl), in_H, by decide +kernel⟩
set_option maxRecDepth 20000 in
theorem im_H_drawn : Cond.instanceMethod y_H_drawn ∈ ab_tbl := (ab_mem (List.mem_append_right _ (List.mem_of_getElem? (i := 505) rfl)) rfl)
set_option maxRecDepth 20000 in
theorem se_H_drawn : Cond.selects "HiddenRows" y_H_drawn y_H_drawn ∈ ab_tbl := (ab_mem (List.mem_append_right _ (List.mem_of_getElem? (i := 506) rfl)) rfl)
set_option maxRecDepth 20000 in
theorem fb_Dr_spread : ab_B y_Dr_spread b_Dr_spread 3 (some .long) 1 := ⟨(ab_mem (List.mem_append_right _ (List.mem_of_getElem? (i := 510) rfl)) rfl), in_Dr, by decide +kernel⟩
set_option maxRecDepth 20000 in
theorem sm_Dr_spread : Cond.static y_Dr_spread ∈ ab_tbl := (ab_mem (List.mem_append_right _ (List.mem_of_getElem? (i := 509) rfl)) rfl)
set_option maxRecDepth 20000 in
theorem fb_Dr_draw : ab_B y_Dr_draw b_Dr_draw 6 (some .long) 1 := ⟨(ab_mem (List.mem_append_right _ (List.mem_of_getElem? (i := 517) rfl)) rfl), in_Dr, by decide +kernel⟩
set_option maxRecDepth 20000 in
theorem im_Dr_draw : Cond.instanceMethod y_Dr_draw ∈ ab_tbl := (ab_mem (List.mem_append_right _ (List.mem_of_getElem? (i := 515) rfl)) rfl)
set_option maxRecDepth 20000 in
theorem se_Dr_draw : Cond.selects "HiddenRows$Drawing" y_Dr_draw y_Dr_draw ∈ ab_tbl := (ab_mem (List.mem_append_right _ (List.mem_of_getElem? (i := 516) rfl)) rfl)
set_option maxRecDepth 20000 in
theorem fb_Dr_openSegment : ab_B y_Dr_openSegment b_Dr_openSegment 3 (some .long) 1 := ⟨(ab_mem (List.mem_append_right _ (List.mem_of_getElem? (i := 522) rfl)) rfl), in_Dr, by decide +kernel⟩
set_option maxRecDepth 20000 in
theorem im_Dr_openSegment : Cond.instanceMethod y_Dr_openSegment ∈ ab_tbl := (ab_mem (List.mem_append_right _ (List.mem_of_getElem? (i := 521) rfl)) rfl)
theorem se_Dr_openSegment : Cond.selects "HiddenRows$Drawing" y_Dr_openSegment y_Dr_openSegment ∈ ab_tbl := (ab_mem (List.mem_append_left _ (List.mem_of_getElem? (i := 15) rfl)) rfl)
set_option maxRecDepth 20000 in
theorem fb_Dr_tellPlace : ab_B y_Dr_tellPlace b_Dr_tellPlace 9 (some .long) 2 := ⟨(ab_mem (List.mem_append_right _ (List.mem_of_getElem? (i := 527) rfl)) rfl), in_Dr, by decide +kernel⟩
set_option maxRecDepth 20000 in
theorem im_Dr_tellPlace : Cond.instanceMethod y_Dr_tellPlace ∈ ab_tbl := (ab_mem (List.mem_append_right _ (List.mem_of_getElem? (i := 526) rfl)) rfl)
theorem se_Dr_tellPlace : Cond.selects "HiddenRows$Drawing" y_Dr_tellPlace y_Dr_tellPlace ∈ ab_tbl := (ab_mem (List.mem_append_left _ (List.mem_of_getElem? (i := 16) rfl)) rfl)
set_option maxRecDepth 20000 in
theorem fb_Dr_sumTelling : ab_B y_Dr_sumTelling b_Dr_sumTelling 4 (some .long) 2 := ⟨(ab_mem (List.mem_append_right _ (List.mem_of_getElem? (i := 531) rfl)) rfl), in_Dr, by decide +kernel⟩
set_option maxRecDepth 20000 in
theorem im_Dr_sumTelling : Cond.instanceMethod y_Dr_sumTelling ∈ ab_tbl := (ab_mem (List.mem_append_right _ (List.mem_of_getElem? (i := 530) rfl)) rfl)
theorem se_Dr_sumTelling : Cond.selects "HiddenRows$Drawing" y_Dr_sumTelling y_Dr_sumTelling ∈ ab_tbl := (ab_mem (List.mem_append_left _ (List.mem_of_getElem? (i := 17) rfl)) rfl)
set_option maxRecDepth 20000 in
theorem fb_Dr_closing : ab_B y_Dr_closing b_Dr_closing 3 (some .long) 2 := ⟨(ab_mem (List.mem_append_right _ (List.mem_of_getElem? (i := 535) rfl)) rfl), in_Dr, by decide +kernel⟩
set_option maxRecDepth 20000 in
theorem im_Dr_closing : Cond.instanceMethod y_Dr_closing ∈ ab_tbl := (ab_mem (List.mem_append_right _ (List.mem_of_getElem? (i := 534) rfl)) rfl)
theorem se_Dr_closing : Cond.selects "HiddenRows$Drawing" y_Dr_closing y_Dr_closing ∈ ab_tbl := (ab_mem (List.mem_append_left _ (List.mem_of_getElem? (i := 18) rfl)) rfl)
set_option maxRecDepth 20000 in
theorem fb_Dr_take : ab_B y_Dr_take b_Dr_take 3 none 2 := ⟨(ab_mem (List.mem_append_right _ (List.mem_of_getElem? (i := 540) rfl)) rfl), in_Dr, by decide +kernel⟩
set_option maxRecDepth 20000 in
theorem im_Dr_take : Cond.instanceMethod y_Dr_take ∈ ab_tbl := (ab_mem (List.mem_append_right _ (List.mem_of_getElem? (i := 539) rfl)) rfl)
theorem se_Dr_take : Cond.selects "HiddenRows$Drawing" y_Dr_take y_Dr_take ∈ ab_tbl := (ab_mem (List.mem_append_left _ (List.mem_of_getElem? (i := 19) rfl)) rfl)
set_option maxRecDepth 20000 in
theorem fb_H_drawnAt : ab_B y_H_drawnAt b_H_drawnAt 2 (some .int) 1 := ⟨(ab_mem (List.mem_append_right _ (List.mem_of_getElem? (i := 544) rfl)) rfl), in_H, by decide +kernel⟩
set_option maxRecDepth 20000 in
theorem im_H_drawnAt : Cond.instanceMethod y_H_drawnAt ∈ ab_tbl := (ab_mem (List.mem_append_right _ (List.mem_of_getElem? (i := 542) rfl)) rfl)
set_option maxRecDepth 20000 in
theorem se_H_drawnAt : Cond.selects "HiddenRows" y_H_drawnAt y_H_drawnAt ∈ ab_tbl := (ab_mem (List.mem_append_right _ (List.mem_of_getElem? (i := 543) rfl)) rfl)
set_option maxRecDepth 20000 in
theorem fb_H_trees : ab_B y_H_trees b_H_trees 2 (some .long) 1 := ⟨(ab_mem (List.mem_append_right _ (List.mem_of_getElem? (i := 548) rfl)) rfl), in_H, by decide +kernel⟩
set_option maxRecDepth 20000 in
theorem im_H_trees : Cond.instanceMethod y_H_trees ∈ ab_tbl := (ab_mem (List.mem_append_right _ (List.mem_of_getElem? (i := 546) rfl)) rfl)
set_option maxRecDepth 20000 in
theorem se_H_trees : Cond.selects "HiddenRows" y_H_trees y_H_trees ∈ ab_tbl := (ab_mem (List.mem_append_right _ (List.mem_of_getElem? (i := 547) rfl)) rfl)
set_option maxRecDepth 20000 in
theorem fb_Tt_sumOfAll : ab_B y_Tt_sumOfAll b_Tt_sumOfAll 2 (some .long) 1 := ⟨(ab_mem (List.mem_append_right _ (List.mem_of_getElem? (i := 552) rfl)) rfl), in_Tt, by decide +kernel⟩
set_option maxRecDepth 20000 in
theorem im_Tt_sumOfAll : Cond.instanceMethod y_Tt_sumOfAll ∈ ab_tbl := (ab_mem (List.mem_append_right _ (List.mem_of_getElem? (i := 550) rfl)) rfl)
set_option maxRecDepth 20000 in
theorem se_Tt_sumOfAll : Cond.selects "HiddenRows$TreeTables" y_Tt_sumOfAll y_Tt_sumOfAll ∈ ab_tbl := (ab_mem (List.mem_append_right _ (List.mem_of_getElem? (i := 551) rfl)) rfl)
set_option maxRecDepth 20000 in
theorem fb_Tt_refresh : ab_B y_Tt_refresh b_Tt_refresh 4 none 0 := ⟨(ab_mem (List.mem_append_right _ (List.mem_of_getElem? (i := 556) rfl)) rfl), in_Tt, by decide +kernel⟩
set_option maxRecDepth 20000 in
theorem im_Tt_refresh : Cond.instanceMethod y_Tt_refresh ∈ ab_tbl := (ab_mem (List.mem_append_right _ (List.mem_of_getElem? (i := 555) rfl)) rfl)
theorem se_Tt_refresh : Cond.selects "HiddenRows$TreeTables" y_Tt_refresh y_Tt_refresh ∈ ab_tbl := (ab_mem (List.mem_append_left _ (List.mem_of_getElem? (i := 20) rfl)) rfl)
set_option maxRecDepth 20000 in
theorem fb_Tt_fill : ab_B y_Tt_fill b_Tt_fill 8 none 3 := ⟨(ab_mem (List.mem_append_right _ (List.mem_of_getElem? (i := 560) rfl)) rfl), in_Tt, by decide +kernel⟩
set_option maxRecDepth 20000 in
theorem im_Tt_fill : Cond.instanceMethod y_Tt_fill ∈ ab_tbl := (ab_mem (List.mem_append_right _ (List.mem_of_getElem? (i := 559) rfl)) rfl)
theorem se_Tt_fill : Cond.selects "HiddenRows$TreeTables" y_Tt_fill y_Tt_fill ∈ ab_tbl := (ab_mem (List.mem_append_left _ (List.mem_of_getElem? (i := 21) rfl)) rfl)
set_option maxRecDepth 20000 in
theorem fb_Tt_spanOf : ab_B y_Tt_spanOf b_Tt_spanOf 2 (some .int) 2 := ⟨(ab_mem (List.mem_append_right _ (List.mem_of_getElem? (i := 563) rfl)) rfl), in_Tt, by decide +kernel⟩
set_option maxRecDepth 20000 in
theorem sm_Tt_spanOf : Cond.static y_Tt_spanOf ∈ ab_tbl := (ab_mem (List.mem_append_right _ (List.mem_of_getElem? (i := 562) rfl)) rfl)
set_option maxRecDepth 20000 in
theorem fb_Ki_leafOf : ab_B y_Ki_leafOf b_Ki_leafOf 5 (some .int) 2 := ⟨(ab_mem (List.mem_append_right _ (List.mem_of_getElem? (i := 567) rfl)) rfl), in_Ki, by decide +kernel⟩
set_option maxRecDepth 20000 in
theorem im_Ki_leafOf : Cond.instanceMethod y_Ki_leafOf ∈ ab_tbl := (ab_mem (List.mem_append_right _ (List.mem_of_getElem? (i := 565) rfl)) rfl)
set_option maxRecDepth 20000 in
theorem se_Ki_leafOf : Cond.selects "HiddenRows$Kinds" y_Ki_leafOf y_Ki_leafOf ∈ ab_tbl := (ab_mem (List.mem_append_right _ (List.mem_of_getElem? (i := 566) rfl)) rfl)
set_option maxRecDepth 20000 in
theorem fb_Tt_addSplit : ab_B y_Tt_addSplit b_Tt_addSplit 9 none 4 := ⟨(ab_mem (List.mem_append_right _ (List.mem_of_getElem? (i := 574) rfl)) rfl), in_Tt, by decide +kernel⟩
set_option maxRecDepth 20000 in
theorem im_Tt_addSplit : Cond.instanceMethod y_Tt_addSplit ∈ ab_tbl := (ab_mem (List.mem_append_right _ (List.mem_of_getElem? (i := 573) rfl)) rfl)
theorem se_Tt_addSplit : Cond.selects "HiddenRows$TreeTables" y_Tt_addSplit y_Tt_addSplit ∈ ab_tbl := (ab_mem (List.mem_append_left _ (List.mem_of_getElem? (i := 22) rfl)) rfl)
set_option maxRecDepth 20000 in
theorem fb_H_treeCount : ab_B y_H_treeCount b_H_treeCount 2 (some .long) 1 := ⟨(ab_mem (List.mem_append_right _ (List.mem_of_getElem? (i := 582) rfl)) rfl), in_H, by decide +kernel⟩
set_option maxRecDepth 20000 in
theorem im_H_treeCount : Cond.instanceMethod y_H_treeCount ∈ ab_tbl := (ab_mem (List.mem_append_right _ (List.mem_of_getElem? (i := 580) rfl)) rfl)
set_option maxRecDepth 20000 in
theorem se_H_treeCount : Cond.selects "HiddenRows" y_H_treeCount y_H_treeCount ∈ ab_tbl := (ab_mem (List.mem_append_right _ (List.mem_of_getElem? (i := 581) rfl)) rfl)
set_option maxRecDepth 20000 in
theorem fb_Tt_countOfAll : ab_B y_Tt_countOfAll b_Tt_countOfAll 2 (some .long) 1 := ⟨(ab_mem (List.mem_append_right _ (List.mem_of_getElem? (i := 586) rfl)) rfl), in_Tt, by decide +kernel⟩
set_option maxRecDepth 20000 in
theorem im_Tt_countOfAll : Cond.instanceMethod y_Tt_countOfAll ∈ ab_tbl := (ab_mem (List.mem_append_right _ (List.mem_of_getElem? (i := 584) rfl)) rfl)
set_option maxRecDepth 20000 in
theorem se_Tt_countOfAll : Cond.selects "HiddenRows$TreeTables" y_Tt_countOfAll y_Tt_countOfAll ∈ ab_tbl := (ab_mem (List.mem_append_right _ (List.mem_of_getElem? (i := 585) rfl)) rfl)
set_option maxRecDepth 20000 in
theorem fb_H_treeBest : ab_B y_H_treeBest b_H_treeBest 2 (some .long) 1 := ⟨(ab_mem (List.mem_append_right _ (List.mem_of_getElem? (i := 590) rfl)) rfl), in_H, by decide +kernel⟩
set_option maxRecDepth 20000 in
theorem im_H_treeBest : Cond.instanceMethod y_H_treeBest ∈ ab_tbl := (ab_mem (List.mem_append_right _ (List.mem_of_getElem? (i := 588) rfl)) rfl)
set_option maxRecDepth 20000 in
theorem se_H_treeBest : Cond.selects "HiddenRows" y_H_treeBest y_H_treeBest ∈ ab_tbl := (ab_mem (List.mem_append_right _ (List.mem_of_getElem? (i := 589) rfl)) rfl)
set_option maxRecDepth 20000 in
theorem fb_Tt_bestOfAll : ab_B y_Tt_bestOfAll b_Tt_bestOfAll 2 (some .long) 1 := ⟨(ab_mem (List.mem_append_right _ (List.mem_of_getElem? (i := 594) rfl)) rfl), in_Tt, by decide +kernel⟩
set_option maxRecDepth 20000 in
theorem im_Tt_bestOfAll : Cond.instanceMethod y_Tt_bestOfAll ∈ ab_tbl := (ab_mem (List.mem_append_right _ (List.mem_of_getElem? (i := 592) rfl)) rfl)
set_option maxRecDepth 20000 in
theorem se_Tt_bestOfAll : Cond.selects "HiddenRows$TreeTables" y_Tt_bestOfAll y_Tt_bestOfAll ∈ ab_tbl := (ab_mem (List.mem_append_right _ (List.mem_of_getElem? (i := 593) rfl)) rfl)
set_option maxRecDepth 20000 in
theorem fb_H_treeAt : ab_B y_H_treeAt b_H_treeAt 3 (some .int) 2 := ⟨(ab_mem (List.mem_append_right _ (List.mem_of_getElem? (i := 598) rfl)) rfl), in_H, by decide +kernel⟩
set_option maxRecDepth 20000 in
theorem im_H_treeAt : Cond.instanceMethod y_H_treeAt ∈ ab_tbl := (ab_mem (List.mem_append_right _ (List.mem_of_getElem? (i := 596) rfl)) rfl)
set_option maxRecDepth 20000 in
theorem se_H_treeAt : Cond.selects "HiddenRows" y_H_treeAt y_H_treeAt ∈ ab_tbl := (ab_mem (List.mem_append_right _ (List.mem_of_getElem? (i := 597) rfl)) rfl)
set_option maxRecDepth 20000 in
theorem fb_Tt_bestTells : ab_B y_Tt_bestTells b_Tt_bestTells 5 (some .int) 2 := ⟨(ab_mem (List.mem_append_right _ (List.mem_of_getElem? (i := 602) rfl)) rfl), in_Tt, by decide +kernel⟩
set_option maxRecDepth 20000 in
theorem im_Tt_bestTells : Cond.instanceMethod y_Tt_bestTells ∈ ab_tbl := (ab_mem (List.mem_append_right _ (List.mem_of_getElem? (i := 600) rfl)) rfl)
set_option maxRecDepth 20000 in
theorem se_Tt_bestTells : Cond.selects "HiddenRows$TreeTables" y_Tt_bestTells y_Tt_bestTells ∈ ab_tbl := (ab_mem (List.mem_append_right _ (List.mem_of_getElem? (i := 601) rfl)) rfl)
set_option maxRecDepth 20000 in
theorem fb_Tt_push : ab_B y_Tt_push b_Tt_push 3 none 2 := ⟨(ab_mem (List.mem_append_right _ (List.mem_of_getElem? (i := 606) rfl)) rfl), in_Tt, by decide +kernel⟩
set_option maxRecDepth 20000 in
theorem im_Tt_push : Cond.instanceMethod y_Tt_push ∈ ab_tbl := (ab_mem (List.mem_append_right _ (List.mem_of_getElem? (i := 605) rfl)) rfl)
theorem se_Tt_push : Cond.selects "HiddenRows$TreeTables" y_Tt_push y_Tt_push ∈ ab_tbl := (ab_mem (List.mem_append_left _ (List.mem_of_getElem? (i := 23) rfl)) rfl)
set_option maxRecDepth 20000 in
theorem fb_Tt_tellNode : ab_B y_Tt_tellNode b_Tt_tellNode 11 (some .int) 2 := ⟨(ab_mem (List.mem_append_right _ (List.mem_of_getElem? (i := 610) rfl)) rfl), in_Tt, by decide +kernel⟩
set_option maxRecDepth 20000 in
theorem im_Tt_tellNode : Cond.instanceMethod y_Tt_tellNode ∈ ab_tbl := (ab_mem (List.mem_append_right _ (List.mem_of_getElem? (i := 609) rfl)) rfl)
theorem se_Tt_tellNode : Cond.selects "HiddenRows$TreeTables" y_Tt_tellNode y_Tt_tellNode ∈ ab_tbl := (ab_mem (List.mem_append_left _ (List.mem_of_getElem? (i := 24) rfl)) rfl)
set_option maxRecDepth 20000 in
theorem fb_Tt_bestParts : ab_B y_Tt_bestParts b_Tt_bestParts 9 (some .int) 4 := ⟨(ab_mem (List.mem_append_right _ (List.mem_of_getElem? (i := 614) rfl)) rfl), in_Tt, by decide +kernel⟩
set_option maxRecDepth 20000 in
theorem im_Tt_bestParts : Cond.instanceMethod y_Tt_bestParts ∈ ab_tbl := (ab_mem (List.mem_append_right _ (List.mem_of_getElem? (i := 613) rfl)) rfl)
theorem se_Tt_bestParts : Cond.selects "HiddenRows$TreeTables" y_Tt_bestParts y_Tt_bestParts ∈ ab_tbl := (ab_mem (List.mem_append_left _ (List.mem_of_getElem? (i := 25) rfl)) rfl)
set_option maxRecDepth 20000 in
theorem fb_H_span : ab_B y_H_span b_H_span 6 (some .long) 5 := ⟨(ab_mem (List.mem_append_right _ (List.mem_of_getElem? (i := 618) rfl)) rfl), in_H, by decide +kernel⟩
set_option maxRecDepth 20000 in
theorem im_H_span : Cond.instanceMethod y_H_span ∈ ab_tbl := (ab_mem (List.mem_append_right _ (List.mem_of_getElem? (i := 616) rfl)) rfl)
set_option maxRecDepth 20000 in
theorem se_H_span : Cond.selects "HiddenRows" y_H_span y_H_span ∈ ab_tbl := (ab_mem (List.mem_append_right _ (List.mem_of_getElem? (i := 617) rfl)) rfl)
set_option maxRecDepth 20000 in
theorem fb_Tt_sumWith : ab_B y_Tt_sumWith b_Tt_sumWith 8 (some .long) 4 := ⟨(ab_mem (List.mem_append_right _ (List.mem_of_getElem? (i := 622) rfl)) rfl), in_Tt, by decide +kernel⟩
set_option maxRecDepth 20000 in
theorem im_Tt_sumWith : Cond.instanceMethod y_Tt_sumWith ∈ ab_tbl := (ab_mem (List.mem_append_right _ (List.mem_of_getElem? (i := 620) rfl)) rfl)
set_option maxRecDepth 20000 in
theorem se_Tt_sumWith : Cond.selects "HiddenRows$TreeTables" y_Tt_sumWith y_Tt_sumWith ∈ ab_tbl := (ab_mem (List.mem_append_right _ (List.mem_of_getElem? (i := 621) rfl)) rfl)
set_option maxRecDepth 20000 in
theorem fb_Tt_addAround : ab_B y_Tt_addAround b_Tt_addAround 6 none 4 := ⟨(ab_mem (List.mem_append_right _ (List.mem_of_getElem? (i := 626) rfl)) rfl), in_Tt, by decide +kernel⟩
set_option maxRecDepth 20000 in
theorem im_Tt_addAround : Cond.instanceMethod y_Tt_addAround ∈ ab_tbl := (ab_mem (List.mem_append_right _ (List.mem_of_getElem? (i := 625) rfl)) rfl)
theorem se_Tt_addAround : Cond.selects "HiddenRows$TreeTables" y_Tt_addAround y_Tt_addAround ∈ ab_tbl := (ab_mem (List.mem_append_left _ (List.mem_of_getElem? (i := 26) rfl)) rfl)
set_option maxRecDepth 20000 in
theorem fb_Tt_addProducts : ab_B y_Tt_addProducts b_Tt_addProducts 11 none 5 := ⟨(ab_mem (List.mem_append_right _ (List.mem_of_getElem? (i := 630) rfl)) rfl), in_Tt, by decide +kernel⟩
set_option maxRecDepth 20000 in
theorem im_Tt_addProducts : Cond.instanceMethod y_Tt_addProducts ∈ ab_tbl := (ab_mem (List.mem_append_right _ (List.mem_of_getElem? (i := 629) rfl)) rfl)
theorem se_Tt_addProducts : Cond.selects "HiddenRows$TreeTables" y_Tt_addProducts y_Tt_addProducts ∈ ab_tbl := (ab_mem (List.mem_append_left _ (List.mem_of_getElem? (i := 27) rfl)) rfl)
set_option maxRecDepth 20000 in
theorem fb_Mo_init : ab_B y_Mo_init b_Mo_init 1 none 0 := ⟨(ab_mem (List.mem_append_right _ (List.mem_of_getElem? (i := 635) rfl)) rfl), in_Mo, by decide +kernel⟩
set_option maxRecDepth 20000 in
theorem im_Mo_init : Cond.instanceMethod y_Mo_init ∈ ab_tbl := (ab_mem (List.mem_append_right _ (List.mem_of_getElem? (i := 634) rfl)) rfl)
set_option maxRecDepth 20000 in
theorem fb_Mo_state : ab_B y_Mo_state b_Mo_state 2 (some .int) 0 := ⟨(ab_mem (List.mem_append_right _ (List.mem_of_getElem? (i := 722) rfl)) rfl), in_Mo, by decide +kernel⟩
set_option maxRecDepth 20000 in
theorem im_Mo_state : Cond.instanceMethod y_Mo_state ∈ ab_tbl := (ab_mem (List.mem_append_right _ (List.mem_of_getElem? (i := 720) rfl)) rfl)
set_option maxRecDepth 20000 in
theorem se_Mo_state : Cond.selects "HiddenRowsModel" y_Mo_state y_Mo_state ∈ ab_tbl := (ab_mem (List.mem_append_right _ (List.mem_of_getElem? (i := 721) rfl)) rfl)
set_option maxRecDepth 20000 in
theorem fb_Mo_change : ab_B y_Mo_change b_Mo_change 1 none 0 := ⟨(ab_mem (List.mem_append_right _ (List.mem_of_getElem? (i := 726) rfl)) rfl), in_Mo, by decide +kernel⟩
set_option maxRecDepth 20000 in
theorem im_Mo_change : Cond.instanceMethod y_Mo_change ∈ ab_tbl := (ab_mem (List.mem_append_right _ (List.mem_of_getElem? (i := 725) rfl)) rfl)
theorem se_Mo_change : Cond.selects "HiddenRowsModel" y_Mo_change y_Mo_change ∈ ab_tbl := (ab_mem (List.mem_append_left _ (List.mem_of_getElem? (i := 28) rfl)) rfl)
set_option maxRecDepth 20000 in
theorem fb_Mo_weight : ab_B y_Mo_weight b_Mo_weight 5 (some .int) 3 := ⟨(ab_mem (List.mem_append_right _ (List.mem_of_getElem? (i := 730) rfl)) rfl), in_Mo, by decide +kernel⟩
set_option maxRecDepth 20000 in
theorem im_Mo_weight : Cond.instanceMethod y_Mo_weight ∈ ab_tbl := (ab_mem (List.mem_append_right _ (List.mem_of_getElem? (i := 728) rfl)) rfl)
set_option maxRecDepth 20000 in
theorem se_Mo_weight : Cond.selects "HiddenRowsModel" y_Mo_weight y_Mo_weight ∈ ab_tbl := (ab_mem (List.mem_append_right _ (List.mem_of_getElem? (i := 729) rfl)) rfl)
set_option maxRecDepth 20000 in
theorem fb_Mo_isState : ab_B y_Mo_isState b_Mo_isState 2 (some .boolean) 1 := ⟨(ab_mem (List.mem_append_right _ (List.mem_of_getElem? (i := 734) rfl)) rfl), in_Mo, by decide +kernel⟩
set_option maxRecDepth 20000 in
theorem im_Mo_isState : Cond.instanceMethod y_Mo_isState ∈ ab_tbl := (ab_mem (List.mem_append_right _ (List.mem_of_getElem? (i := 733) rfl)) rfl)
theorem se_Mo_isState : Cond.selects "HiddenRowsModel" y_Mo_isState y_Mo_isState ∈ ab_tbl := (ab_mem (List.mem_append_left _ (List.mem_of_getElem? (i := 29) rfl)) rfl)
set_option maxRecDepth 20000 in
theorem fb_Mo_isWeight : ab_B y_Mo_isWeight b_Mo_isWeight 1 (some .boolean) 1 := ⟨(ab_mem (List.mem_append_right _ (List.mem_of_getElem? (i := 737) rfl)) rfl), in_Mo, by decide +kernel⟩
set_option maxRecDepth 20000 in
theorem sm_Mo_isWeight : Cond.static y_Mo_isWeight ∈ ab_tbl := (ab_mem (List.mem_append_right _ (List.mem_of_getElem? (i := 736) rfl)) rfl)
set_option maxRecDepth 20000 in
theorem fb_Mo_move : ab_B y_Mo_move b_Mo_move 5 (some .int) 3 := ⟨(ab_mem (List.mem_append_right _ (List.mem_of_getElem? (i := 741) rfl)) rfl), in_Mo, by decide +kernel⟩
set_option maxRecDepth 20000 in
theorem im_Mo_move : Cond.instanceMethod y_Mo_move ∈ ab_tbl := (ab_mem (List.mem_append_right _ (List.mem_of_getElem? (i := 739) rfl)) rfl)
set_option maxRecDepth 20000 in
theorem se_Mo_move : Cond.selects "HiddenRowsModel" y_Mo_move y_Mo_move ∈ ab_tbl := (ab_mem (List.mem_append_right _ (List.mem_of_getElem? (i := 740) rfl)) rfl)
set_option maxRecDepth 20000 in
theorem fb_Mo_kind : ab_B y_Mo_kind b_Mo_kind 1 (some .int) 0 := ⟨(ab_mem (List.mem_append_right _ (List.mem_of_getElem? (i := 745) rfl)) rfl), in_Mo, by decide +kernel⟩
set_option maxRecDepth 20000 in
theorem im_Mo_kind : Cond.instanceMethod y_Mo_kind ∈ ab_tbl := (ab_mem (List.mem_append_right _ (List.mem_of_getElem? (i := 743) rfl)) rfl)
set_option maxRecDepth 20000 in
theorem se_Mo_kind : Cond.selects "HiddenRowsModel" y_Mo_kind y_Mo_kind ∈ ab_tbl := (ab_mem (List.mem_append_right _ (List.mem_of_getElem? (i := 744) rfl)) rfl)
set_option maxRecDepth 20000 in
theorem fb_Mo_rule : ab_B y_Mo_rule b_Mo_rule 6 (some .int) 4 := ⟨(ab_mem (List.mem_append_right _ (List.mem_of_getElem? (i := 749) rfl)) rfl), in_Mo, by decide +kernel⟩
set_option maxRecDepth 20000 in
theorem im_Mo_rule : Cond.instanceMethod y_Mo_rule ∈ ab_tbl := (ab_mem (List.mem_append_right _ (List.mem_of_getElem? (i := 747) rfl)) rfl)
set_option maxRecDepth 20000 in
theorem se_Mo_rule : Cond.selects "HiddenRowsModel" y_Mo_rule y_Mo_rule ∈ ab_tbl := (ab_mem (List.mem_append_right _ (List.mem_of_getElem? (i := 748) rfl)) rfl)
set_option maxRecDepth 20000 in
theorem fb_Mo_isKind : ab_B y_Mo_isKind b_Mo_isKind 2 (some .boolean) 1 := ⟨(ab_mem (List.mem_append_right _ (List.mem_of_getElem? (i := 753) rfl)) rfl), in_Mo, by decide +kernel⟩
set_option maxRecDepth 20000 in
theorem im_Mo_isKind : Cond.instanceMethod y_Mo_isKind ∈ ab_tbl := (ab_mem (List.mem_append_right _ (List.mem_of_getElem? (i := 752) rfl)) rfl)
theorem se_Mo_isKind : Cond.selects "HiddenRowsModel" y_Mo_isKind y_Mo_isKind ∈ ab_tbl := (ab_mem (List.mem_append_left _ (List.mem_of_getElem? (i := 30) rfl)) rfl)
set_option maxRecDepth 20000 in
theorem fb_Mo_leaf : ab_B y_Mo_leaf b_Mo_leaf 5 (some .int) 3 := ⟨(ab_mem (List.mem_append_right _ (List.mem_of_getElem? (i := 757) rfl)) rfl), in_Mo, by decide +kernel⟩
set_option maxRecDepth 20000 in
theorem im_Mo_leaf : Cond.instanceMethod y_Mo_leaf ∈ ab_tbl := (ab_mem (List.mem_append_right _ (List.mem_of_getElem? (i := 755) rfl)) rfl)
set_option maxRecDepth 20000 in
theorem se_Mo_leaf : Cond.selects "HiddenRowsModel" y_Mo_leaf y_Mo_leaf ∈ ab_tbl := (ab_mem (List.mem_append_right _ (List.mem_of_getElem? (i := 756) rfl)) rfl)
set_option maxRecDepth 20000 in
theorem fb_Mo_sign : ab_B y_Mo_sign b_Mo_sign 2 (some .int) 1 := ⟨(ab_mem (List.mem_append_right _ (List.mem_of_getElem? (i := 761) rfl)) rfl), in_Mo, by decide +kernel⟩
set_option maxRecDepth 20000 in
theorem im_Mo_sign : Cond.instanceMethod y_Mo_sign ∈ ab_tbl := (ab_mem (List.mem_append_right _ (List.mem_of_getElem? (i := 759) rfl)) rfl)
set_option maxRecDepth 20000 in
theorem se_Mo_sign : Cond.selects "HiddenRowsModel" y_Mo_sign y_Mo_sign ∈ ab_tbl := (ab_mem (List.mem_append_right _ (List.mem_of_getElem? (i := 760) rfl)) rfl)
set_option maxRecDepth 20000 in
theorem fb_Mo_clear : ab_B y_Mo_clear b_Mo_clear 2 (some .int) 0 := ⟨(ab_mem (List.mem_append_right _ (List.mem_of_getElem? (i := 765) rfl)) rfl), in_Mo, by decide +kernel⟩
set_option maxRecDepth 20000 in
theorem im_Mo_clear : Cond.instanceMethod y_Mo_clear ∈ ab_tbl := (ab_mem (List.mem_append_right _ (List.mem_of_getElem? (i := 763) rfl)) rfl)
set_option maxRecDepth 20000 in
theorem se_Mo_clear : Cond.selects "HiddenRowsModel" y_Mo_clear y_Mo_clear ∈ ab_tbl := (ab_mem (List.mem_append_right _ (List.mem_of_getElem? (i := 764) rfl)) rfl)
set_option maxRecDepth 20000 in
theorem fb_Mo_hold : ab_B y_Mo_hold b_Mo_hold 4 (some .int) 2 := ⟨(ab_mem (List.mem_append_right _ (List.mem_of_getElem? (i := 769) rfl)) rfl), in_Mo, by decide +kernel⟩
set_option maxRecDepth 20000 in
theorem im_Mo_hold : Cond.instanceMethod y_Mo_hold ∈ ab_tbl := (ab_mem (List.mem_append_right _ (List.mem_of_getElem? (i := 767) rfl)) rfl)
set_option maxRecDepth 20000 in
theorem se_Mo_hold : Cond.selects "HiddenRowsModel" y_Mo_hold y_Mo_hold ∈ ab_tbl := (ab_mem (List.mem_append_right _ (List.mem_of_getElem? (i := 768) rfl)) rfl)
set_option maxRecDepth 20000 in
theorem fb_Mo_isPlace : ab_B y_Mo_isPlace b_Mo_isPlace 2 (some .boolean) 1 := ⟨(ab_mem (List.mem_append_right _ (List.mem_of_getElem? (i := 773) rfl)) rfl), in_Mo, by decide +kernel⟩
set_option maxRecDepth 20000 in
theorem im_Mo_isPlace : Cond.instanceMethod y_Mo_isPlace ∈ ab_tbl := (ab_mem (List.mem_append_right _ (List.mem_of_getElem? (i := 772) rfl)) rfl)
theorem se_Mo_isPlace : Cond.selects "HiddenRowsModel" y_Mo_isPlace y_Mo_isPlace ∈ ab_tbl := (ab_mem (List.mem_append_left _ (List.mem_of_getElem? (i := 31) rfl)) rfl)
set_option maxRecDepth 20000 in
theorem fb_Mo_total : ab_B y_Mo_total b_Mo_total 1 (some .long) 0 := ⟨(ab_mem (List.mem_append_right _ (List.mem_of_getElem? (i := 777) rfl)) rfl), in_Mo, by decide +kernel⟩
set_option maxRecDepth 20000 in
theorem im_Mo_total : Cond.instanceMethod y_Mo_total ∈ ab_tbl := (ab_mem (List.mem_append_right _ (List.mem_of_getElem? (i := 775) rfl)) rfl)
set_option maxRecDepth 20000 in
theorem se_Mo_total : Cond.selects "HiddenRowsModel" y_Mo_total y_Mo_total ∈ ab_tbl := (ab_mem (List.mem_append_right _ (List.mem_of_getElem? (i := 776) rfl)) rfl)
set_option maxRecDepth 20000 in
theorem fb_Mo_know : ab_B y_Mo_know b_Mo_know 4 none 0 := ⟨(ab_mem (List.mem_append_right _ (List.mem_of_getElem? (i := 781) rfl)) rfl), in_Mo, by decide +kernel⟩
set_option maxRecDepth 20000 in
theorem im_Mo_know : Cond.instanceMethod y_Mo_know ∈ ab_tbl := (ab_mem (List.mem_append_right _ (List.mem_of_getElem? (i := 780) rfl)) rfl)
theorem se_Mo_know : Cond.selects "HiddenRowsModel" y_Mo_know y_Mo_know ∈ ab_tbl := (ab_mem (List.mem_append_left _ (List.mem_of_getElem? (i := 32) rfl)) rfl)
set_option maxRecDepth 20000 in
theorem fb_Mo_next : ab_B y_Mo_next b_Mo_next 4 (some .boolean) 1 := ⟨(ab_mem (List.mem_append_right _ (List.mem_of_getElem? (i := 785) rfl)) rfl), in_Mo, by decide +kernel⟩
set_option maxRecDepth 20000 in
theorem im_Mo_next : Cond.instanceMethod y_Mo_next ∈ ab_tbl := (ab_mem (List.mem_append_right _ (List.mem_of_getElem? (i := 784) rfl)) rfl)
theorem se_Mo_next : Cond.selects "HiddenRowsModel" y_Mo_next y_Mo_next ∈ ab_tbl := (ab_mem (List.mem_append_left _ (List.mem_of_getElem? (i := 33) rfl)) rfl)
set_option maxRecDepth 20000 in
theorem fb_Mo_canBe : ab_B y_Mo_canBe b_Mo_canBe 3 (some .boolean) 2 := ⟨(ab_mem (List.mem_append_right _ (List.mem_of_getElem? (i := 789) rfl)) rfl), in_Mo, by decide +kernel⟩
set_option maxRecDepth 20000 in
theorem im_Mo_canBe : Cond.instanceMethod y_Mo_canBe ∈ ab_tbl := (ab_mem (List.mem_append_right _ (List.mem_of_getElem? (i := 788) rfl)) rfl)
theorem se_Mo_canBe : Cond.selects "HiddenRowsModel" y_Mo_canBe y_Mo_canBe ∈ ab_tbl := (ab_mem (List.mem_append_left _ (List.mem_of_getElem? (i := 34) rfl)) rfl)
set_option maxRecDepth 20000 in
theorem fb_Mo_stay : ab_B y_Mo_stay b_Mo_stay 4 (some .int) 1 := ⟨(ab_mem (List.mem_append_right _ (List.mem_of_getElem? (i := 793) rfl)) rfl), in_Mo, by decide +kernel⟩
set_option maxRecDepth 20000 in
theorem im_Mo_stay : Cond.instanceMethod y_Mo_stay ∈ ab_tbl := (ab_mem (List.mem_append_right _ (List.mem_of_getElem? (i := 792) rfl)) rfl)
theorem se_Mo_stay : Cond.selects "HiddenRowsModel" y_Mo_stay y_Mo_stay ∈ ab_tbl := (ab_mem (List.mem_append_left _ (List.mem_of_getElem? (i := 35) rfl)) rfl)
set_option maxRecDepth 20000 in
theorem fb_Mo_weightOf : ab_B y_Mo_weightOf b_Mo_weightOf 6 (some .long) 0 := ⟨(ab_mem (List.mem_append_right _ (List.mem_of_getElem? (i := 797) rfl)) rfl), in_Mo, by decide +kernel⟩
set_option maxRecDepth 20000 in
theorem im_Mo_weightOf : Cond.instanceMethod y_Mo_weightOf ∈ ab_tbl := (ab_mem (List.mem_append_right _ (List.mem_of_getElem? (i := 796) rfl)) rfl)
theorem se_Mo_weightOf : Cond.selects "HiddenRowsModel" y_Mo_weightOf y_Mo_weightOf ∈ ab_tbl := (ab_mem (List.mem_append_left _ (List.mem_of_getElem? (i := 36) rfl)) rfl)
set_option maxRecDepth 20000 in
theorem fb_Mo_show : ab_B y_Mo_show b_Mo_show 5 (some .int) 2 := ⟨(ab_mem (List.mem_append_right _ (List.mem_of_getElem? (i := 801) rfl)) rfl), in_Mo, by decide +kernel⟩
set_option maxRecDepth 20000 in
theorem im_Mo_show : Cond.instanceMethod y_Mo_show ∈ ab_tbl := (ab_mem (List.mem_append_right _ (List.mem_of_getElem? (i := 800) rfl)) rfl)
theorem se_Mo_show : Cond.selects "HiddenRowsModel" y_Mo_show y_Mo_show ∈ ab_tbl := (ab_mem (List.mem_append_left _ (List.mem_of_getElem? (i := 37) rfl)) rfl)
set_option maxRecDepth 20000 in
theorem fb_Mo_add : ab_B y_Mo_add b_Mo_add 5 none 1 := ⟨(ab_mem (List.mem_append_right _ (List.mem_of_getElem? (i := 805) rfl)) rfl), in_Mo, by decide +kernel⟩
set_option maxRecDepth 20000 in
theorem im_Mo_add : Cond.instanceMethod y_Mo_add ∈ ab_tbl := (ab_mem (List.mem_append_right _ (List.mem_of_getElem? (i := 804) rfl)) rfl)
theorem se_Mo_add : Cond.selects "HiddenRowsModel" y_Mo_add y_Mo_add ∈ ab_tbl := (ab_mem (List.mem_append_left _ (List.mem_of_getElem? (i := 38) rfl)) rfl)
set_option maxRecDepth 20000 in
theorem fb_Mo_keep : ab_B y_Mo_keep b_Mo_keep 5 none 1 := ⟨(ab_mem (List.mem_append_right _ (List.mem_of_getElem? (i := 809) rfl)) rfl), in_Mo, by decide +kernel⟩
set_option maxRecDepth 20000 in
theorem im_Mo_keep : Cond.instanceMethod y_Mo_keep ∈ ab_tbl := (ab_mem (List.mem_append_right _ (List.mem_of_getElem? (i := 808) rfl)) rfl)
theorem se_Mo_keep : Cond.selects "HiddenRowsModel" y_Mo_keep y_Mo_keep ∈ ab_tbl := (ab_mem (List.mem_append_left _ (List.mem_of_getElem? (i := 39) rfl)) rfl)
set_option maxRecDepth 20000 in
theorem fb_Mo_ways : ab_B y_Mo_ways b_Mo_ways 1 (some .int) 0 := ⟨(ab_mem (List.mem_append_right _ (List.mem_of_getElem? (i := 813) rfl)) rfl), in_Mo, by decide +kernel⟩
set_option maxRecDepth 20000 in
theorem im_Mo_ways : Cond.instanceMethod y_Mo_ways ∈ ab_tbl := (ab_mem (List.mem_append_right _ (List.mem_of_getElem? (i := 811) rfl)) rfl)
set_option maxRecDepth 20000 in
theorem se_Mo_ways : Cond.selects "HiddenRowsModel" y_Mo_ways y_Mo_ways ∈ ab_tbl := (ab_mem (List.mem_append_right _ (List.mem_of_getElem? (i := 812) rfl)) rfl)
set_option maxRecDepth 20000 in
theorem fb_Mo_share : ab_B y_Mo_share b_Mo_share 4 (some .long) 3 := ⟨(ab_mem (List.mem_append_right _ (List.mem_of_getElem? (i := 817) rfl)) rfl), in_Mo, by decide +kernel⟩
set_option maxRecDepth 20000 in
theorem im_Mo_share : Cond.instanceMethod y_Mo_share ∈ ab_tbl := (ab_mem (List.mem_append_right _ (List.mem_of_getElem? (i := 815) rfl)) rfl)
set_option maxRecDepth 20000 in
theorem se_Mo_share : Cond.selects "HiddenRowsModel" y_Mo_share y_Mo_share ∈ ab_tbl := (ab_mem (List.mem_append_right _ (List.mem_of_getElem? (i := 816) rfl)) rfl)
set_option maxRecDepth 20000 in
theorem fb_Mo_lowest : ab_B y_Mo_lowest b_Mo_lowest 7 (some .long) 3 := ⟨(ab_mem (List.mem_append_right _ (List.mem_of_getElem? (i := 823) rfl)) rfl), in_Mo, by decide +kernel⟩
set_option maxRecDepth 20000 in
theorem sm_Mo_lowest : Cond.static y_Mo_lowest ∈ ab_tbl := (ab_mem (List.mem_append_right _ (List.mem_of_getElem? (i := 822) rfl)) rfl)
set_option maxRecDepth 20000 in
theorem fb_Mo_common : ab_B y_Mo_common b_Mo_common 10 (some .long) 2 := ⟨(ab_mem (List.mem_append_right _ (List.mem_of_getElem? (i := 826) rfl)) rfl), in_Mo, by decide +kernel⟩
set_option maxRecDepth 20000 in
theorem sm_Mo_common : Cond.static y_Mo_common ∈ ab_tbl := (ab_mem (List.mem_append_right _ (List.mem_of_getElem? (i := 825) rfl)) rfl)
set_option maxRecDepth 20000 in
theorem fb_Mo_begin : ab_B y_Mo_begin b_Mo_begin 4 (some .long) 3 := ⟨(ab_mem (List.mem_append_right _ (List.mem_of_getElem? (i := 830) rfl)) rfl), in_Mo, by decide +kernel⟩
set_option maxRecDepth 20000 in
theorem im_Mo_begin : Cond.instanceMethod y_Mo_begin ∈ ab_tbl := (ab_mem (List.mem_append_right _ (List.mem_of_getElem? (i := 828) rfl)) rfl)
set_option maxRecDepth 20000 in
theorem se_Mo_begin : Cond.selects "HiddenRowsModel" y_Mo_begin y_Mo_begin ∈ ab_tbl := (ab_mem (List.mem_append_right _ (List.mem_of_getElem? (i := 829) rfl)) rfl)
set_option maxRecDepth 20000 in
theorem fb_Mo_pair : ab_B y_Mo_pair b_Mo_pair 5 (some .long) 4 := ⟨(ab_mem (List.mem_append_right _ (List.mem_of_getElem? (i := 834) rfl)) rfl), in_Mo, by decide +kernel⟩
set_option maxRecDepth 20000 in
theorem im_Mo_pair : Cond.instanceMethod y_Mo_pair ∈ ab_tbl := (ab_mem (List.mem_append_right _ (List.mem_of_getElem? (i := 832) rfl)) rfl)
set_option maxRecDepth 20000 in
theorem se_Mo_pair : Cond.selects "HiddenRowsModel" y_Mo_pair y_Mo_pair ∈ ab_tbl := (ab_mem (List.mem_append_right _ (List.mem_of_getElem? (i := 833) rfl)) rfl)
set_option maxRecDepth 20000 in
theorem fb_Mo_top : ab_B y_Mo_top b_Mo_top 4 (some .int) 1 := ⟨(ab_mem (List.mem_append_right _ (List.mem_of_getElem? (i := 838) rfl)) rfl), in_Mo, by decide +kernel⟩
set_option maxRecDepth 20000 in
theorem im_Mo_top : Cond.instanceMethod y_Mo_top ∈ ab_tbl := (ab_mem (List.mem_append_right _ (List.mem_of_getElem? (i := 836) rfl)) rfl)
set_option maxRecDepth 20000 in
theorem se_Mo_top : Cond.selects "HiddenRowsModel" y_Mo_top y_Mo_top ∈ ab_tbl := (ab_mem (List.mem_append_right _ (List.mem_of_getElem? (i := 837) rfl)) rfl)
set_option maxRecDepth 20000 in
theorem fb_Mo_best : ab_B y_Mo_best b_Mo_best 2 (some .long) 1 := ⟨(ab_mem (List.mem_append_right _ (List.mem_of_getElem? (i := 842) rfl)) rfl), in_Mo, by decide +kernel⟩
set_option maxRecDepth 20000 in
theorem im_Mo_best : Cond.instanceMethod y_Mo_best ∈ ab_tbl := (ab_mem (List.mem_append_right _ (List.mem_of_getElem? (i := 840) rfl)) rfl)
set_option maxRecDepth 20000 in
theorem se_Mo_best : Cond.selects "HiddenRowsModel" y_Mo_best y_Mo_best ∈ ab_tbl := (ab_mem (List.mem_append_right _ (List.mem_of_getElem? (i := 841) rfl)) rfl)
set_option maxRecDepth 20000 in
theorem fb_Mo_bestAt : ab_B y_Mo_bestAt b_Mo_bestAt 3 (some .int) 2 := ⟨(ab_mem (List.mem_append_right _ (List.mem_of_getElem? (i := 846) rfl)) rfl), in_Mo, by decide +kernel⟩
set_option maxRecDepth 20000 in
theorem im_Mo_bestAt : Cond.instanceMethod y_Mo_bestAt ∈ ab_tbl := (ab_mem (List.mem_append_right _ (List.mem_of_getElem? (i := 844) rfl)) rfl)
set_option maxRecDepth 20000 in
theorem se_Mo_bestAt : Cond.selects "HiddenRowsModel" y_Mo_bestAt y_Mo_bestAt ∈ ab_tbl := (ab_mem (List.mem_append_right _ (List.mem_of_getElem? (i := 845) rfl)) rfl)
set_option maxRecDepth 20000 in
theorem fb_Mo_drawn : ab_B y_Mo_drawn b_Mo_drawn 11 (some .long) 1 := ⟨(ab_mem (List.mem_append_right _ (List.mem_of_getElem? (i := 850) rfl)) rfl), in_Mo, by decide +kernel⟩
set_option maxRecDepth 20000 in
theorem im_Mo_drawn : Cond.instanceMethod y_Mo_drawn ∈ ab_tbl := (ab_mem (List.mem_append_right _ (List.mem_of_getElem? (i := 848) rfl)) rfl)
set_option maxRecDepth 20000 in
theorem se_Mo_drawn : Cond.selects "HiddenRowsModel" y_Mo_drawn y_Mo_drawn ∈ ab_tbl := (ab_mem (List.mem_append_right _ (List.mem_of_getElem? (i := 849) rfl)) rfl)
set_option maxRecDepth 20000 in
theorem fb_Mo_drawnAt : ab_B y_Mo_drawnAt b_Mo_drawnAt 2 (some .int) 1 := ⟨(ab_mem (List.mem_append_right _ (List.mem_of_getElem? (i := 857) rfl)) rfl), in_Mo, by decide +kernel⟩
set_option maxRecDepth 20000 in
theorem im_Mo_drawnAt : Cond.instanceMethod y_Mo_drawnAt ∈ ab_tbl := (ab_mem (List.mem_append_right _ (List.mem_of_getElem? (i := 855) rfl)) rfl)
set_option maxRecDepth 20000 in
theorem se_Mo_drawnAt : Cond.selects "HiddenRowsModel" y_Mo_drawnAt y_Mo_drawnAt ∈ ab_tbl := (ab_mem (List.mem_append_right _ (List.mem_of_getElem? (i := 856) rfl)) rfl)
set_option maxRecDepth 20000 in
theorem fb_Mo_trees : ab_B y_Mo_trees b_Mo_trees 2 (some .long) 1 := ⟨(ab_mem (List.mem_append_right _ (List.mem_of_getElem? (i := 861) rfl)) rfl), in_Mo, by decide +kernel⟩
set_option maxRecDepth 20000 in
theorem im_Mo_trees : Cond.instanceMethod y_Mo_trees ∈ ab_tbl := (ab_mem (List.mem_append_right _ (List.mem_of_getElem? (i := 859) rfl)) rfl)
set_option maxRecDepth 20000 in
theorem se_Mo_trees : Cond.selects "HiddenRowsModel" y_Mo_trees y_Mo_trees ∈ ab_tbl := (ab_mem (List.mem_append_right _ (List.mem_of_getElem? (i := 860) rfl)) rfl)
set_option maxRecDepth 20000 in
theorem fb_Mo_findTrees : ab_B y_Mo_findTrees b_Mo_findTrees 8 none 3 := ⟨(ab_mem (List.mem_append_right _ (List.mem_of_getElem? (i := 865) rfl)) rfl), in_Mo, by decide +kernel⟩
set_option maxRecDepth 20000 in
theorem im_Mo_findTrees : Cond.instanceMethod y_Mo_findTrees ∈ ab_tbl := (ab_mem (List.mem_append_right _ (List.mem_of_getElem? (i := 864) rfl)) rfl)
theorem se_Mo_findTrees : Cond.selects "HiddenRowsModel" y_Mo_findTrees y_Mo_findTrees ∈ ab_tbl := (ab_mem (List.mem_append_left _ (List.mem_of_getElem? (i := 40) rfl)) rfl)
set_option maxRecDepth 20000 in
theorem fb_Mo_findSpan : ab_B y_Mo_findSpan b_Mo_findSpan 14 none 3 := ⟨(ab_mem (List.mem_append_right _ (List.mem_of_getElem? (i := 869) rfl)) rfl), in_Mo, by decide +kernel⟩
set_option maxRecDepth 20000 in
theorem im_Mo_findSpan : Cond.instanceMethod y_Mo_findSpan ∈ ab_tbl := (ab_mem (List.mem_append_right _ (List.mem_of_getElem? (i := 868) rfl)) rfl)
theorem se_Mo_findSpan : Cond.selects "HiddenRowsModel" y_Mo_findSpan y_Mo_findSpan ∈ ab_tbl := (ab_mem (List.mem_append_left _ (List.mem_of_getElem? (i := 41) rfl)) rfl)
set_option maxRecDepth 20000 in
theorem fb_Mo_at : ab_B y_Mo_at b_Mo_at 3 (some .int) 3 := ⟨(ab_mem (List.mem_append_right _ (List.mem_of_getElem? (i := 872) rfl)) rfl), in_Mo, by decide +kernel⟩
set_option maxRecDepth 20000 in
theorem sm_Mo_at : Cond.static y_Mo_at ∈ ab_tbl := (ab_mem (List.mem_append_right _ (List.mem_of_getElem? (i := 871) rfl)) rfl)
set_option maxRecDepth 20000 in
theorem fb_Mo_leafOf : ab_B y_Mo_leafOf b_Mo_leafOf 5 (some .long) 2 := ⟨(ab_mem (List.mem_append_right _ (List.mem_of_getElem? (i := 876) rfl)) rfl), in_Mo, by decide +kernel⟩
set_option maxRecDepth 20000 in
theorem im_Mo_leafOf : Cond.instanceMethod y_Mo_leafOf ∈ ab_tbl := (ab_mem (List.mem_append_right _ (List.mem_of_getElem? (i := 875) rfl)) rfl)
theorem se_Mo_leafOf : Cond.selects "HiddenRowsModel" y_Mo_leafOf y_Mo_leafOf ∈ ab_tbl := (ab_mem (List.mem_append_left _ (List.mem_of_getElem? (i := 42) rfl)) rfl)
set_option maxRecDepth 20000 in
theorem fb_Mo_whole : ab_B y_Mo_whole b_Mo_whole 2 (some .int) 1 := ⟨(ab_mem (List.mem_append_right _ (List.mem_of_getElem? (i := 880) rfl)) rfl), in_Mo, by decide +kernel⟩
set_option maxRecDepth 20000 in
theorem im_Mo_whole : Cond.instanceMethod y_Mo_whole ∈ ab_tbl := (ab_mem (List.mem_append_right _ (List.mem_of_getElem? (i := 879) rfl)) rfl)
theorem se_Mo_whole : Cond.selects "HiddenRowsModel" y_Mo_whole y_Mo_whole ∈ ab_tbl := (ab_mem (List.mem_append_left _ (List.mem_of_getElem? (i := 43) rfl)) rfl)
set_option maxRecDepth 20000 in
theorem fb_Mo_treeCount : ab_B y_Mo_treeCount b_Mo_treeCount 2 (some .long) 1 := ⟨(ab_mem (List.mem_append_right _ (List.mem_of_getElem? (i := 884) rfl)) rfl), in_Mo, by decide +kernel⟩
set_option maxRecDepth 20000 in
theorem im_Mo_treeCount : Cond.instanceMethod y_Mo_treeCount ∈ ab_tbl := (ab_mem (List.mem_append_right _ (List.mem_of_getElem? (i := 882) rfl)) rfl)
set_option maxRecDepth 20000 in
theorem se_Mo_treeCount : Cond.selects "HiddenRowsModel" y_Mo_treeCount y_Mo_treeCount ∈ ab_tbl := (ab_mem (List.mem_append_right _ (List.mem_of_getElem? (i := 883) rfl)) rfl)
set_option maxRecDepth 20000 in
theorem fb_Mo_treeBest : ab_B y_Mo_treeBest b_Mo_treeBest 4 (some .long) 1 := ⟨(ab_mem (List.mem_append_right _ (List.mem_of_getElem? (i := 888) rfl)) rfl), in_Mo, by decide +kernel⟩
set_option maxRecDepth 20000 in
theorem im_Mo_treeBest : Cond.instanceMethod y_Mo_treeBest ∈ ab_tbl := (ab_mem (List.mem_append_right _ (List.mem_of_getElem? (i := 886) rfl)) rfl)
set_option maxRecDepth 20000 in
theorem se_Mo_treeBest : Cond.selects "HiddenRowsModel" y_Mo_treeBest y_Mo_treeBest ∈ ab_tbl := (ab_mem (List.mem_append_right _ (List.mem_of_getElem? (i := 887) rfl)) rfl)
set_option maxRecDepth 20000 in
theorem fb_Mo_treeAt : ab_B y_Mo_treeAt b_Mo_treeAt 11 (some .int) 2 := ⟨(ab_mem (List.mem_append_right _ (List.mem_of_getElem? (i := 893) rfl)) rfl), in_Mo, by decide +kernel⟩
set_option maxRecDepth 20000 in
theorem im_Mo_treeAt : Cond.instanceMethod y_Mo_treeAt ∈ ab_tbl := (ab_mem (List.mem_append_right _ (List.mem_of_getElem? (i := 891) rfl)) rfl)
set_option maxRecDepth 20000 in
theorem se_Mo_treeAt : Cond.selects "HiddenRowsModel" y_Mo_treeAt y_Mo_treeAt ∈ ab_tbl := (ab_mem (List.mem_append_right _ (List.mem_of_getElem? (i := 892) rfl)) rfl)
set_option maxRecDepth 20000 in
theorem fb_Mo_leastOf : ab_B y_Mo_leastOf b_Mo_leastOf 9 (some .int) 3 := ⟨(ab_mem (List.mem_append_right _ (List.mem_of_getElem? (i := 897) rfl)) rfl), in_Mo, by decide +kernel⟩
set_option maxRecDepth 20000 in
theorem im_Mo_leastOf : Cond.instanceMethod y_Mo_leastOf ∈ ab_tbl := (ab_mem (List.mem_append_right _ (List.mem_of_getElem? (i := 896) rfl)) rfl)
theorem se_Mo_leastOf : Cond.selects "HiddenRowsModel" y_Mo_leastOf y_Mo_leastOf ∈ ab_tbl := (ab_mem (List.mem_append_left _ (List.mem_of_getElem? (i := 44) rfl)) rfl)
set_option maxRecDepth 20000 in
theorem fb_Mo_span : ab_B y_Mo_span b_Mo_span 10 (some .long) 5 := ⟨(ab_mem (List.mem_append_right _ (List.mem_of_getElem? (i := 901) rfl)) rfl), in_Mo, by decide +kernel⟩
set_option maxRecDepth 20000 in
theorem im_Mo_span : Cond.instanceMethod y_Mo_span ∈ ab_tbl := (ab_mem (List.mem_append_right _ (List.mem_of_getElem? (i := 899) rfl)) rfl)
set_option maxRecDepth 20000 in
theorem se_Mo_span : Cond.selects "HiddenRowsModel" y_Mo_span y_Mo_span ∈ ab_tbl := (ab_mem (List.mem_append_right _ (List.mem_of_getElem? (i := 900) rfl)) rfl)
theorem sm_Jm_max : Cond.static Lib.Math.max.name ∈ ab_tbl := (ab_mem (List.mem_append_right _ (List.mem_of_getElem? (i := 427) rfl)) rfl)
theorem co_Jm_max : Cond.code Lib.Math.max.name Lib.Math.max.code 2 (some .int) ∈ ab_tbl := (ab_mem (List.mem_append_right _ (List.mem_of_getElem? (i := 428) rfl)) rfl)
set_option maxRecDepth 20000 in
theorem sm_Jm_min : Cond.static Lib.Math.min.name ∈ ab_tbl := (ab_mem (List.mem_append_right _ (List.mem_of_getElem? (i := 483) rfl)) rfl)
set_option maxRecDepth 20000 in
theorem co_Jm_min : Cond.code Lib.Math.min.name Lib.Math.min.code 2 (some .int) ∈ ab_tbl := (ab_mem (List.mem_append_right _ (List.mem_of_getElem? (i := 484) rfl)) rfl)
set_option maxRecDepth 20000 in
theorem sm_Jm_lmax : Cond.static Lib.MathLoose.max_long.x ∈ ab_tbl := (ab_mem (List.mem_append_right _ (List.mem_of_getElem? (i := 577) rfl)) rfl)
set_option maxRecDepth 20000 in
theorem co_Jm_lmax : Cond.code Lib.MathLoose.max_long.x Lib.MathLoose.max_long.code 4 (some .long) ∈ ab_tbl := (ab_mem (List.mem_append_right _ (List.mem_of_getElem? (i := 578) rfl)) rfl)
set_option maxRecDepth 20000 in
theorem sm_Jm_lmin : Cond.static Lib.MathLoose.min_long.x ∈ ab_tbl := (ab_mem (List.mem_append_right _ (List.mem_of_getElem? (i := 569) rfl)) rfl)
set_option maxRecDepth 20000 in
theorem co_Jm_lmin : Cond.code Lib.MathLoose.min_long.x Lib.MathLoose.min_long.code 4 (some .long) ∈ ab_tbl := (ab_mem (List.mem_append_right _ (List.mem_of_getElem? (i := 570) rfl)) rfl)
theorem in_Jm : Cond.initialized "java/lang/Math" ∈ ab_tbl := (ab_mem (List.mem_append_right _ (List.mem_of_getElem? (i := 11) rfl)) rfl)
end
